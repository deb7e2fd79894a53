set_option maxHeartbeats 4000000 in
set_option maxRecDepth 100000 in
theorem kX9_reignOf_0 (l : Launch) (D : va_G) (C : Nat → ClassId) (A : Nat → Nat) (u : St) (hI : IC u) (a0 : Int32) (A0 : Int) (ha0 : a0.toInt = A0) : Met l yX9_reignOf (uc yX9_reignOf cX9_reignOf 4 (some .int)) (rmL 3 0 0) (va_Pc [.ref (A 0), .int a0] (PreR D (tyl C) (cw C A u))) (vp_Si (fun r => True)) 0 0 (fun _ => False) := by
  refine mS (by decide) (Nat.le_of_ble_eq_true rfl) ?_
  intro p e s m below meth c ls ar Q hx hb hml hown hts hK hP hl hret
  have hown : s.vm.findClass RX9 = some m.cls := hown
  have hl : lv_has ls 4 [(0, .ref (A 0)), (1, .int a0)] := hl
  refine lv_iconst (v := 0) hx hb dX9_reignOf_0 (by decide) ?_
  refine lv_istore_n (lv' := [(2, .int 0), (0, .ref (A 0)), (1, .int a0)]) hx hb dX9_reignOf_1 rfl hl (by decide) rfl (fun ls hl => ?_)
  refine lv_iconst (v := 0) hx hb dX9_reignOf_2 (by decide) ?_
  refine lv_istore_n (lv' := [(3, .int 0), (2, .int 0), (0, .ref (A 0)), (1, .int a0)]) hx hb dX9_reignOf_3 rfl hl (by decide) rfl (fun ls hl => ?_)
  have lp4_113 : ∀ (n4 : Nat) (ls : Array Slot) (y112d : Int32) (y113d : Int32), 0 ≤ y112d.toInt → y112d.toInt ≤ 7 → 7 - y112d.toInt < (n4 : Int) → lv_has ls 4 [(3, .int y112d), (2, .int y113d), (0, .ref (A 0)), (1, .int a0)] → W p l e (rmL 3 0 0) s m ar below meth c s.heap [] 0 0 Q (F0 m 4 ls []) := by
    intro n4
    induction n4 with
    | zero => intro ls y112d y113d ly112d my112d hmun4 hl; exfalso; omega
    | succ n4 ih4_113 =>
      intro ls y112d y113d ly112d my112d hmun4 hl
      refine lv_iload_n hx hb dX9_reignOf_4 rfl (lv_at hl 0 rfl) ?_
      refine lv_aload_n hx hb dX9_reignOf_5 rfl (lv_at hl 2 rfl) ?_
      refine va_get (ci := 9) (v := .ref (A 7)) (C := RX9) (T := TX9) (N := 12) hx hb hts (fun w h => uc_in w (inX9 w h)) hown hK hP 0 (cwc0 C A u) rfl 5 (by decide) (hts _ (uc_in _ q_f388)) (fun _ h9 => h9) rfl dX9_reignOf_6 ?_
      refine va_get (ci := 5) (v := .int (gi u 48)) (C := RX5) (T := TX5) (N := 4) hx hb hts (fun w h => uc_in w (inX5 w h)) hown hK hP 7 (cwc7 C A u) rfl 0 (by decide) (hts _ (uc_in _ q_f164)) (fun _ h9 => h9) rfl dX9_reignOf_9 ?_
      have b115 := hI.b48
      refine lv_icmp_ge (tgt := 36) hx hb dX9_reignOf_12 (by decide) (fun c116 => ?_) (fun c116 => ?_)
      · have c116 := cLE (x := (gi u 48)) (y := y112d) (X := ((gi u 48)).toInt) (Y := y112d.toInt) rfl rfl c116
        refine lv_iload_n hx hb dX9_reignOf_36 rfl (lv_at hl 1 rfl) ?_
        exact hret _ _ y113d dX9_reignOf_37 rfl trivial
      · have c116 := cNLE (x := (gi u 48)) (y := y112d) (X := ((gi u 48)).toInt) (Y := y112d.toInt) rfl rfl c116
        refine lv_aload_n hx hb dX9_reignOf_15 rfl (lv_at hl 2 rfl) ?_
        refine lv_iload_n hx hb dX9_reignOf_16 rfl (lv_at hl 0 rfl) ?_
        refine cvS (n := 1) (As := [.int y112d]) (rest := []) ⟨hx, hb, hml, hown, hts⟩ uc_in (kX9_slowestOn_0 l D C A u hI y112d y112d.toInt rfl (by omega) (by omega)) q_m623 q_n625 q_p14 q_i1 q_c626 hvX9_slowestOn ⟨(Nat.le_of_ble_eq_true rfl), (Nat.le_of_ble_eq_true rfl)⟩ ⟨(Nat.le_of_ble_eq_true rfl), (Nat.le_of_ble_eq_true rfl)⟩ hK hP 9 0 rfl (cwc0 C A u) rfl hl.1 rfl (Nat.le_of_ble_eq_true rfl) dX9_reignOf_17 (fun r117 p118 => ?_)
        have p118 : (-1) ≤ r117.toInt ∧ r117.toInt ≤ 5 := p118
        refine lv_iload_n hx hb dX9_reignOf_20 rfl (lv_at hl 3 rfl) ?_
        have j30_125 : ∀ (ls : Array Slot) (y123d : Int32), lv_has ls 4 [(3, .int y112d), (2, .int y123d), (0, .ref (A 0)), (1, .int a0)] → W p l e (rmL 3 0 0) s m ar below meth c s.heap [] 0 0 Q (F0 m 30 ls []) := by
          intro ls y123d hl
          obtain ⟨z127, ez127⟩ : ∃ z, z = y112d + Int32.ofInt 1 := ⟨_, rfl⟩
          have hz127 : z127.toInt = y112d.toInt + 1 := by rw [ez127]; exact tt_add rfl (by decide) (by omega) (by omega)
          refine lv_iinc (v := z127) (lv' := [(3, .int z127), (2, .int y123d), (0, .ref (A 0)), (1, .int a0)]) hx hb dX9_reignOf_30 hl (k := 0) rfl ez127.symm (by decide) rfl (fun ls hl => ?_)
          refine lv_goto (tgt := 4) hx hb dX9_reignOf_33 (by decide) ?_
          exact ih4_113 ls z127 y123d (by have q9 := (show z127.toInt = (y112d.toInt + 1) from hz127); omega) (by have q9 := (show z127.toInt = (y112d.toInt + 1) from hz127); omega) (by have q9 := (show z127.toInt = (y112d.toInt + 1) from hz127); omega) hl
        refine lv_icmp_ne (tgt := 30) hx hb dX9_reignOf_21 (by decide) (fun c119 => ?_) (fun c119 => ?_)
        · exact j30_125 ls y113d hl
        · have c119 := cEQ (x := r117) (y := a0) (X := r117.toInt) (Y := A0) rfl ha0 c119
          refine lv_iload_n hx hb dX9_reignOf_24 rfl (lv_at hl 1 rfl) ?_
          refine lv_iconst (v := 1) hx hb dX9_reignOf_25 (by decide) ?_
          refine lv_iload_n hx hb dX9_reignOf_26 rfl (lv_at hl 0 rfl) ?_
          refine lv_ishl hx hb dX9_reignOf_27 ?_
          have gz128 := tt_shl1 (y := y112d) (Y := y112d.toInt) rfl (by omega) (by omega)
          refine p_bd (P := fun q => 1 ≤ q ∧ q ≤ 64) ⟨by omega, by omega⟩ (fun z129 bz129 => ?_)
          have bz129 : 1 ≤ z129.toInt ∧ z129.toInt ≤ 64 := bz129
          refine lv_ior hx hb dX9_reignOf_28 ?_
          refine p_any (fun z130 => ?_)
          refine lv_istore_n (lv' := [(2, .int z130), (3, .int y112d), (0, .ref (A 0)), (1, .int a0)]) hx hb dX9_reignOf_29 rfl hl (by decide) rfl (fun ls hl => ?_)
          exact j30_125 ls z130 (lv_sub hl [1, 0, 2, 3] rfl)
  exact lp4_113 8 ls 0 0 (by decide) (by decide) (by have q9 : (0 : Int32).toInt = 0 := (by decide); omega) hl
set_option maxHeartbeats 4000000 in
set_option maxRecDepth 100000 in
theorem kX9_rentsOf_0 (l : Launch) (D : va_G) (C : Nat → ClassId) (A : Nat → Nat) (u : St) (hI : IC u) (a0 : Int32) (A0 : Int) (ha0 : a0.toInt = A0) (hl0 : 0 ≤ A0) (hm0 : A0 ≤ 5) : Met l yX9_rentsOf (uc yX9_rentsOf cX9_rentsOf 2 (some .int)) (rmL 4 0 0) (va_Pc [.ref (A 0), .int a0] (PreR D (tyl C) (cw C A u))) (vp_Si (fun r => True)) 0 0 (fun _ => False) := by
  refine mS (by decide) (Nat.le_of_ble_eq_true rfl) ?_
  intro p e s m below meth c ls ar Q hx hb hml hown hts hK hP hl hret
  have hown : s.vm.findClass RX9 = some m.cls := hown
  have hl : lv_has ls 2 [(0, .ref (A 0)), (1, .int a0)] := hl
  refine lv_aload_n hx hb dX9_rentsOf_0 rfl (lv_at hl 0 rfl) ?_
  refine va_get (ci := 9) (v := .ref (A 2)) (C := RX9) (T := TX9) (N := 12) hx hb hts (fun w h => uc_in w (inX9 w h)) hown hK hP 0 (cwc0 C A u) rfl 1 (by decide) (hts _ (uc_in _ q_f384)) (fun _ h9 => h9) rfl dX9_rentsOf_1 ?_
  refine va_get (ci := 7) (v := .ref (A 55)) (C := RX7) (T := TX7) (N := 16) hx hb hts (fun w h => uc_in w (inX7 w h)) hown hK hP 2 (cwc2 C A u) rfl 11 (by decide) (hts _ (uc_in _ q_f109)) (fun _ h9 => h9) rfl dX9_rentsOf_4 ?_
  refine lv_iload_n hx hb dX9_rentsOf_7 rfl (lv_at hl 1 rfl) ?_
  refine va_iald hx hb hK hP 55 1 (cwc55 C A u) rfl (i_ix ha0 (by omega) (by omega)) dX9_rentsOf_8 ?_
  refine p_any (fun z1 => ?_)
  refine lv_aload_n hx hb dX9_rentsOf_9 rfl (lv_at hl 0 rfl) ?_
  refine lv_iload_n hx hb dX9_rentsOf_10 rfl (lv_at hl 1 rfl) ?_
  refine cvS (n := 1) (As := [.int a0]) (rest := [.int z1]) ⟨hx, hb, hml, hown, hts⟩ uc_in (kX9_reignOf_0 l D C A u hI a0 A0 ha0) q_m694 q_n696 q_p20 q_i1 q_c697 hvX9_reignOf ⟨(Nat.le_of_ble_eq_true rfl), (Nat.le_of_ble_eq_true rfl)⟩ ⟨(Nat.le_of_ble_eq_true rfl), (Nat.le_of_ble_eq_true rfl)⟩ hK hP 9 0 rfl (cwc0 C A u) rfl hl.1 rfl (Nat.le_of_ble_eq_true rfl) dX9_rentsOf_11 (fun r2 p3 => ?_)
  refine csS (n := 1) (As := [.int r2]) (rest := [.int z1]) ⟨hx, hb, hml, hown, hts⟩ uc_in (kJ6_bitCount_0f7a4_0 l D C A u hI r2 r2.toInt rfl) q_m706 q_s707 q_i18 q_c708 hvJ6_bitCount_0f7a4 ⟨(Nat.le_of_ble_eq_true rfl), (Nat.le_of_ble_eq_true rfl)⟩ ⟨(Nat.le_of_ble_eq_true rfl), (Nat.le_of_ble_eq_true rfl)⟩ hK hP rfl hl.1 rfl (Nat.le_of_ble_eq_true rfl) dX9_rentsOf_14 (fun r4 p5 => ?_)
  have p5 : 0 ≤ r4.toInt ∧ r4.toInt ≤ 63 := p5
  refine lv_imul hx hb dX9_rentsOf_17 ?_
  refine p_any (fun z6 => ?_)
  exact hret _ _ z6 dX9_rentsOf_18 rfl trivial
set_option maxHeartbeats 4000000 in
set_option maxRecDepth 100000 in
theorem kX9_priceOf_0 (l : Launch) (D : va_G) (C : Nat → ClassId) (A : Nat → Nat) (u : St) (hI : IC u) (a0 : Int32) (A0 : Int) (ha0 : a0.toInt = A0) (hl0 : 0 ≤ A0) (hm0 : A0 ≤ 5) : Met l yX9_priceOf (uc yX9_priceOf cX9_priceOf 2 (some .int)) (rmL 5 0 0) (va_Pc [.ref (A 0), .int a0] (PreR D (tyl C) (cw C A u))) (vp_Si (fun r => True)) 0 0 (fun _ => False) := by
  refine mS (by decide) (Nat.le_of_ble_eq_true rfl) ?_
  intro p e s m below meth c ls ar Q hx hb hml hown hts hK hP hl hret
  have hown : s.vm.findClass RX9 = some m.cls := hown
  have hl : lv_has ls 2 [(0, .ref (A 0)), (1, .int a0)] := hl
  refine lv_aload_n hx hb dX9_priceOf_0 rfl (lv_at hl 0 rfl) ?_
  refine lv_iconst (v := 0) hx hb dX9_priceOf_1 (by decide) ?_
  refine cvS (n := 1) (As := [.int 0]) (rest := []) ⟨hx, hb, hml, hown, hts⟩ uc_in (kX9_waitWithout_0 l D C A u hI (0) 0 (by decide)) q_m682 q_n684 q_p19 q_i1 q_c685 hvX9_waitWithout ⟨(Nat.le_of_ble_eq_true rfl), (Nat.le_of_ble_eq_true rfl)⟩ ⟨(Nat.le_of_ble_eq_true rfl), (Nat.le_of_ble_eq_true rfl)⟩ hK hP 9 0 rfl (cwc0 C A u) rfl hl.1 rfl (Nat.le_of_ble_eq_true rfl) dX9_priceOf_2 (fun r1 p2 => ?_)
  refine lv_aload_n hx hb dX9_priceOf_5 rfl (lv_at hl 0 rfl) ?_
  refine lv_iconst (v := 1) hx hb dX9_priceOf_6 (by decide) ?_
  refine lv_iload_n hx hb dX9_priceOf_7 rfl (lv_at hl 1 rfl) ?_
  refine lv_ishl hx hb dX9_priceOf_8 ?_
  have gz3 := tt_shl1 (y := a0) (Y := A0) ha0 (by omega) (by omega)
  refine p_bd (P := fun q => 1 ≤ q ∧ q ≤ 32) ⟨by omega, by omega⟩ (fun z4 bz4 => ?_)
  have bz4 : 1 ≤ z4.toInt ∧ z4.toInt ≤ 32 := bz4
  refine cvS (n := 1) (As := [.int z4]) (rest := [.int r1]) ⟨hx, hb, hml, hown, hts⟩ uc_in (kX9_waitWithout_0 l D C A u hI z4 z4.toInt rfl) q_m682 q_n684 q_p19 q_i1 q_c685 hvX9_waitWithout ⟨(Nat.le_of_ble_eq_true rfl), (Nat.le_of_ble_eq_true rfl)⟩ ⟨(Nat.le_of_ble_eq_true rfl), (Nat.le_of_ble_eq_true rfl)⟩ hK hP 9 0 rfl (cwc0 C A u) rfl hl.1 rfl (Nat.le_of_ble_eq_true rfl) dX9_priceOf_9 (fun r5 p6 => ?_)
  refine lv_isub hx hb dX9_priceOf_12 ?_
  refine p_any (fun z7 => ?_)
  refine lv_aload_n hx hb dX9_priceOf_13 rfl (lv_at hl 0 rfl) ?_
  refine lv_iload_n hx hb dX9_priceOf_14 rfl (lv_at hl 1 rfl) ?_
  refine cvS (n := 1) (As := [.int a0]) (rest := [.int z7]) ⟨hx, hb, hml, hown, hts⟩ uc_in (kX9_rentsOf_0 l D C A u hI a0 A0 ha0 (by omega) (by omega)) q_m702 q_n704 q_p21 q_i1 q_c705 hvX9_rentsOf ⟨(Nat.le_of_ble_eq_true rfl), (Nat.le_of_ble_eq_true rfl)⟩ ⟨(Nat.le_of_ble_eq_true rfl), (Nat.le_of_ble_eq_true rfl)⟩ hK hP 9 0 rfl (cwc0 C A u) rfl hl.1 rfl (Nat.le_of_ble_eq_true rfl) dX9_priceOf_15 (fun r8 p9 => ?_)
  refine lv_isub hx hb dX9_priceOf_18 ?_
  refine p_any (fun z10 => ?_)
  exact hret _ _ z10 dX9_priceOf_19 rfl trivial
set_option maxHeartbeats 4000000 in
set_option maxRecDepth 100000 in
theorem kX9_deals_0 (l : Launch) (D : va_G) (C : Nat → ClassId) (A : Nat → Nat) (u : St) (hI : IC u) : Met l yX9_deals (uc yX9_deals cX9_deals 3 (some .int)) (rmL 6 0 0) (va_Pc [.ref (A 0)] (PreR D (tyl C) (cw C A u))) (vp_Si (fun r => (-2) ≤ r.toInt ∧ r.toInt ≤ 63)) 0 0 (fun _ => False) := by
  refine mS (by decide) (Nat.le_of_ble_eq_true rfl) ?_
  intro p e s m below meth c ls ar Q hx hb hml hown hts hK hP hl hret
  have hown : s.vm.findClass RX9 = some m.cls := hown
  have hl : lv_has ls 3 [(0, .ref (A 0))] := hl
  refine lv_aload_n hx hb dX9_deals_0 rfl (lv_at hl 0 rfl) ?_
  refine cvS (n := 0) (As := []) (rest := []) ⟨hx, hb, hml, hown, hts⟩ uc_in (kX9_hasTown_0 l D C A u hI ) q_m678 q_n680 q_p18 q_i1 q_c681 hvX9_hasTown ⟨(Nat.le_of_ble_eq_true rfl), (Nat.le_of_ble_eq_true rfl)⟩ ⟨(Nat.le_of_ble_eq_true rfl), (Nat.le_of_ble_eq_true rfl)⟩ hK hP 9 0 rfl (cwc0 C A u) rfl hl.1 rfl (Nat.le_of_ble_eq_true rfl) dX9_deals_1 (fun r1 p2 => ?_)
  have p2 : 0 ≤ r1.toInt ∧ r1.toInt ≤ 1 := p2
  refine lv_if_ne (tgt := 10) hx hb dX9_deals_4 (by decide) (fun c3 => ?_) (fun c3 => ?_)
  · have c3 := cNE (x := r1) (y := 0) (X := r1.toInt) (Y := 0) rfl (by decide) c3
    refine lv_iconst (v := 0) hx hb dX9_deals_10 (by decide) ?_
    refine lv_istore_n (lv' := [(1, .int 0), (0, .ref (A 0))]) hx hb dX9_deals_11 rfl hl (by decide) rfl (fun ls hl => ?_)
    refine lv_iconst (v := 0) hx hb dX9_deals_12 (by decide) ?_
    refine lv_istore_n (lv' := [(2, .int 0), (1, .int 0), (0, .ref (A 0))]) hx hb dX9_deals_13 rfl hl (by decide) rfl (fun ls hl => ?_)
    have lp14_73 : ∀ (n14 : Nat) (ls : Array Slot) (y72d : Int32) (y73d : Int32), 0 ≤ y72d.toInt → y72d.toInt ≤ 6 → 0 ≤ y73d.toInt → y73d.toInt ≤ 63 → 6 - y72d.toInt < (n14 : Int) → lv_has ls 3 [(2, .int y72d), (1, .int y73d), (0, .ref (A 0))] → W p l e (rmL 6 0 0) s m ar below meth c s.heap [] 0 0 Q (F0 m 14 ls []) := by
      intro n14
      induction n14 with
      | zero => intro ls y72d y73d ly72d my72d ly73d my73d hmun14 hl; exfalso; omega
      | succ n14 ih14_73 =>
        intro ls y72d y73d ly72d my72d ly73d my73d hmun14 hl
        refine lv_iload_n hx hb dX9_deals_14 rfl (lv_at hl 0 rfl) ?_
        refine lv_aload_n hx hb dX9_deals_15 rfl (lv_at hl 2 rfl) ?_
        refine va_get (ci := 9) (v := .ref (A 7)) (C := RX9) (T := TX9) (N := 12) hx hb hts (fun w h => uc_in w (inX9 w h)) hown hK hP 0 (cwc0 C A u) rfl 5 (by decide) (hts _ (uc_in _ q_f388)) (fun _ h9 => h9) rfl dX9_deals_16 ?_
        refine va_get (ci := 5) (v := .int (gi u 49)) (C := RX5) (T := TX5) (N := 4) hx hb hts (fun w h => uc_in w (inX5 w h)) hown hK hP 7 (cwc7 C A u) rfl 1 (by decide) (hts _ (uc_in _ q_f167)) (fun _ h9 => h9) rfl dX9_deals_19 ?_
        have b75 := hI.b49
        refine lv_icmp_ge (tgt := 45) hx hb dX9_deals_22 (by decide) (fun c76 => ?_) (fun c76 => ?_)
        · have c76 := cLE (x := (gi u 49)) (y := y72d) (X := ((gi u 49)).toInt) (Y := y72d.toInt) rfl rfl c76
          refine lv_iload_n hx hb dX9_deals_45 rfl (lv_at hl 1 rfl) ?_
          exact hret _ _ y73d dX9_deals_46 rfl ⟨by omega, by omega⟩
        · have c76 := cNLE (x := (gi u 49)) (y := y72d) (X := ((gi u 49)).toInt) (Y := y72d.toInt) rfl rfl c76
          refine lv_aload_n hx hb dX9_deals_25 rfl (lv_at hl 2 rfl) ?_
          refine lv_iload_n hx hb dX9_deals_26 rfl (lv_at hl 0 rfl) ?_
          refine cvS (n := 1) (As := [.int y72d]) (rest := []) ⟨hx, hb, hml, hown, hts⟩ uc_in (kX9_priceOf_0 l D C A u hI y72d y72d.toInt rfl (by omega) (by omega)) q_m724 q_n726 q_p22 q_i1 q_c727 hvX9_priceOf ⟨(Nat.le_of_ble_eq_true rfl), (Nat.le_of_ble_eq_true rfl)⟩ ⟨(Nat.le_of_ble_eq_true rfl), (Nat.le_of_ble_eq_true rfl)⟩ hK hP 9 0 rfl (cwc0 C A u) rfl hl.1 rfl (Nat.le_of_ble_eq_true rfl) dX9_deals_27 (fun r77 p78 => ?_)
          have j39_86 : ∀ (ls : Array Slot) (y84d : Int32), 0 ≤ y84d.toInt → y84d.toInt ≤ 63 → lv_has ls 3 [(2, .int y72d), (1, .int y84d), (0, .ref (A 0))] → W p l e (rmL 6 0 0) s m ar below meth c s.heap [] 0 0 Q (F0 m 39 ls []) := by
            intro ls y84d ly84d my84d hl
            obtain ⟨z88, ez88⟩ : ∃ z, z = y72d + Int32.ofInt 1 := ⟨_, rfl⟩
            have hz88 : z88.toInt = y72d.toInt + 1 := by rw [ez88]; exact tt_add rfl (by decide) (by omega) (by omega)
            refine lv_iinc (v := z88) (lv' := [(2, .int z88), (1, .int y84d), (0, .ref (A 0))]) hx hb dX9_deals_39 hl (k := 0) rfl ez88.symm (by decide) rfl (fun ls hl => ?_)
            refine lv_goto (tgt := 14) hx hb dX9_deals_42 (by decide) ?_
            exact ih14_73 ls z88 y84d (by have q9 := (show z88.toInt = (y72d.toInt + 1) from hz88); omega) (by have q9 := (show z88.toInt = (y72d.toInt + 1) from hz88); omega) (by omega) (by omega) (by have q9 := (show z88.toInt = (y72d.toInt + 1) from hz88); omega) hl
          refine lv_if_le (tgt := 39) hx hb dX9_deals_30 (by decide) (fun c79 => ?_) (fun c79 => ?_)
          · have c79 := cLE (x := r77) (y := 0) (X := r77.toInt) (Y := 0) rfl (by decide) c79
            exact j39_86 ls y73d (by omega) (by omega) hl
          · have c79 := cNLE (x := r77) (y := 0) (X := r77.toInt) (Y := 0) rfl (by decide) c79
            refine lv_iload_n hx hb dX9_deals_33 rfl (lv_at hl 1 rfl) ?_
            refine lv_iconst (v := 1) hx hb dX9_deals_34 (by decide) ?_
            refine lv_iload_n hx hb dX9_deals_35 rfl (lv_at hl 0 rfl) ?_
            refine lv_ishl hx hb dX9_deals_36 ?_
            have gz89 := tt_shl1 (y := y72d) (Y := y72d.toInt) rfl (by omega) (by omega)
            refine p_bd (P := fun q => 1 ≤ q ∧ q ≤ 32) ⟨by omega, by omega⟩ (fun z90 bz90 => ?_)
            have bz90 : 1 ≤ z90.toInt ∧ z90.toInt ≤ 32 := bz90
            refine lv_ior hx hb dX9_deals_37 ?_
            have gz91 := tt_or (x := y73d) (y := z90) (X := y73d.toInt) (Y := z90.toInt) rfl rfl 6 (by decide) (by omega) (by omega) (by omega) (by omega)
            refine p_bd (P := fun q => 0 ≤ q ∧ q ≤ 63) ⟨by omega, by omega⟩ (fun z92 bz92 => ?_)
            have bz92 : 0 ≤ z92.toInt ∧ z92.toInt ≤ 63 := bz92
            refine lv_istore_n (lv' := [(1, .int z92), (2, .int y72d), (0, .ref (A 0))]) hx hb dX9_deals_38 rfl hl (by decide) rfl (fun ls hl => ?_)
            exact j39_86 ls z92 (by omega) (by omega) (lv_sub hl [1, 0, 2] rfl)
    exact lp14_73 7 ls 0 0 (by decide) (by decide) (by decide) (by decide) (by have q9 : (0 : Int32).toInt = 0 := (by decide); omega) hl
  · have c3 := cEQ (x := r1) (y := 0) (X := r1.toInt) (Y := 0) rfl (by decide) c3
    refine lv_bipush (v := (-2)) hx hb dX9_deals_7 (by decide) ?_
    exact hret _ _ ((-2) : Int32) dX9_deals_9 rfl ⟨by decide, by decide⟩
set_option maxHeartbeats 4000000 in
set_option maxRecDepth 100000 in
theorem kX4_begin_0 (l : Launch) (D : va_G) (C : Nat → ClassId) (A : Nat → Nat) (u : St) (hI : IC u) (a0 : Int32) (A0 : Int) (ha0 : a0.toInt = A0) (sz : Nat) : MetV l yX4_begin cX4_begin 2 1 [.ref (A 16), .int a0] D (tyl C) (cw C A) X0 u sz (fun u' => IC u' ∧ Un [] [] [] u u' ∧ True) := by
  refine mV (by decide) (Nat.le_of_ble_eq_true rfl) ?_
  intro p e s m below meth c ls ar Q hx hb hml hown hts hK hH hX hl hret
  have hown : s.vm.findClass RX4 = some m.cls := hown
  have hl : lv_has ls 2 [(0, .ref (A 16)), (1, .int a0)] := hl
  refine lv_aload_n hx hb dX4_begin_0 rfl (lv_at hl 0 rfl) ?_
  refine lv_iload_n hx hb dX4_begin_1 rfl (lv_at hl 1 rfl) ?_
  refine lv_i2l (v := a0.toInt64) hx hb dX4_begin_2 rfl ?_
  refine r_putl (j := 0) (ci := 4) (C := RX4) (T := TX4) (N := 4) hx hb hts (fun w h => uc_in w (inX4 w h)) tyX4 tyX4_ok nmX4 hown hK hH 16 (cwc16 C A u) rfl 3 (by decide) (hts _ (uc_in _ q_f373)) (fun _ h9 => h9) rfl (by decide +kernel) (Nat.le_of_ble_eq_true rfl) (cwl0 C A u _) dX4_begin_3 (fun u1 eu1 H locs hH => ?_)
  have hI := hI.pl_ eu1
  exact hret _ _ _ _ _ dX4_begin_6 ⟨hI, (Un.sl Un.rf eu1), trivial⟩ hH
set_option maxHeartbeats 4000000 in
set_option maxRecDepth 100000 in
theorem kX4_draw_0 (l : Launch) (D : va_G) (C : Nat → ClassId) (A : Nat → Nat) (u : St) (hI : IC u) (sz : Nat) : MetI l yX4_draw cX4_draw 1 (some .int) 1 [.ref (A 16)] D (tyl C) (cw C A) X0 u sz (fun r u' => IC u' ∧ Un [] [] [] u u' ∧ (True)) := by
  refine mI (by decide) (Nat.le_of_ble_eq_true rfl) ?_
  intro p e s m below meth c ls ar Q hx hb hml hown hts hK hH hX hl hret
  have hown : s.vm.findClass RX4 = some m.cls := hown
  have hl : lv_has ls 1 [(0, .ref (A 16))] := hl
  refine lv_aload_n hx hb dX4_draw_0 rfl (lv_at hl 0 rfl) ?_
  refine lv_ldc2 (v := 1103515245) hx hb hown (hts _ (uc_in _ q_k1125)) dX4_draw_1 ?_
  refine lv_aload_n hx hb dX4_draw_4 rfl (lv_at hl 0 rfl) ?_
  refine va_get (ci := 4) (v := .long (gl u 0)) (C := RX4) (T := TX4) (N := 4) hx hb hts (fun w h => uc_in w (inX4 w h)) hown hK hH.1 16 (cwc16 C A u) rfl 3 (by decide) (hts _ (uc_in _ q_f373)) (fun _ h9 => h9) rfl dX4_draw_5 ?_
  refine p_anyl (fun z1 => ?_)
  refine lv_lmul hx hb dX4_draw_8 ?_
  refine p_anyl (fun z2 => ?_)
  refine lv_ldc2 (v := 12345) hx hb hown (hts _ (uc_in _ q_k1126)) dX4_draw_9 ?_
  refine lv_ladd hx hb dX4_draw_12 ?_
  refine p_anyl (fun z3 => ?_)
  refine lv_ldc2 (v := 2147483648) hx hb hown (hts _ (uc_in _ q_k1127)) dX4_draw_13 ?_
  refine lv_lrem hx hb dX4_draw_16 (by decide) ?_
  refine p_anyl (fun z4 => ?_)
  refine r_putl (j := 0) (ci := 4) (C := RX4) (T := TX4) (N := 4) hx hb hts (fun w h => uc_in w (inX4 w h)) tyX4 tyX4_ok nmX4 hown hK hH 16 (cwc16 C A u) rfl 3 (by decide) (hts _ (uc_in _ q_f373)) (fun _ h9 => h9) rfl (by decide +kernel) (Nat.le_of_ble_eq_true rfl) (cwl0 C A u _) dX4_draw_17 (fun u5 eu5 H locs hH => ?_)
  have hI := hI.pl_ eu5
  refine lv_aload_n hx hb dX4_draw_20 rfl (lv_at hl 0 rfl) ?_
  refine va_get (ci := 4) (v := .long (gl u5 0)) (C := RX4) (T := TX4) (N := 4) hx hb hts (fun w h => uc_in w (inX4 w h)) hown hK hH.1 16 (cwc16 C A u5) rfl 3 (by decide) (hts _ (uc_in _ q_f373)) (fun _ h9 => h9) rfl dX4_draw_21 ?_
  refine p_anyl (fun z6 => ?_)
  refine lv_ldc2 (v := 65536) hx hb hown (hts _ (uc_in _ q_k1128)) dX4_draw_24 ?_
  refine lv_ldiv hx hb dX4_draw_27 (by decide) ?_
  refine p_anyl (fun z7 => ?_)
  refine lv_ldc2 (v := 10) hx hb hown (hts _ (uc_in _ q_k1129)) dX4_draw_28 ?_
  refine lv_lrem hx hb dX4_draw_31 (by decide) ?_
  refine p_anyl (fun z8 => ?_)
  refine lv_l2i hx hb dX4_draw_32 rfl ?_
  refine p_any (fun z9 => ?_)
  exact hret _ _ _ _ z9 _ dX4_draw_33 rfl ⟨hI, (Un.sl Un.rf eu5), trivial⟩ hH
set_option maxHeartbeats 4000000 in
set_option maxRecDepth 100000 in
theorem kX4_drawDay_0 (l : Launch) (D : va_G) (C : Nat → ClassId) (A : Nat → Nat) (u : St) (hI : IC u) (q0 : Nat) (hq0 : q0 < 109) (a1 : Int32) (A1 : Int) (ha1 : a1.toInt = A1) (a2 : Int32) (A2 : Int) (ha2 : a2.toInt = A2) (sz : Nat) : MetI l yX4_drawDay cX4_drawDay 6 (some .boolean) 2 [.ref (A 16), .ref (A (52 + q0)), .int a1, .int a2] D (tyl C) (cw C A) X0 u sz (fun r u' => IC u' ∧ Un [] [(83, 83)] [] u u' ∧ (0 ≤ r.toInt ∧ r.toInt ≤ 1)) := by
  refine mI (by decide) (Nat.le_of_ble_eq_true rfl) ?_
  intro p e s m below meth c ls ar Q hx hb hml hown hts hK hH hX hl hret
  have hown : s.vm.findClass RX4 = some m.cls := hown
  have hl : lv_has ls 6 [(0, .ref (A 16)), (1, .ref (A (52 + q0))), (2, .int a1), (3, .int a2)] := hl
  refine lv_iconst (v := 0) hx hb dX4_drawDay_0 (by decide) ?_
  refine lv_istore (lv' := [(4, .int 0), (0, .ref (A 16)), (1, .ref (A (52 + q0))), (2, .int a1), (3, .int a2)]) hx hb dX4_drawDay_1 hl (by decide) rfl (fun ls hl => ?_)
  refine lv_iconst (v := 0) hx hb dX4_drawDay_3 (by decide) ?_
  refine lv_istore (lv' := [(5, .int 0), (4, .int 0), (0, .ref (A 16)), (1, .ref (A (52 + q0))), (2, .int a1), (3, .int a2)]) hx hb dX4_drawDay_4 hl (by decide) rfl (fun ls hl => ?_)
  have lp6_126 : ∀ (n6 : Nat) (ls : Array Slot) (y124d : Int32) (y125d : Int32) (u126 : St) (H : Heap) (locs : List Loc), 0 ≤ y124d.toInt → y124d.toInt ≤ 6 → 0 ≤ y125d.toInt → y125d.toInt ≤ 1 → 6 - y124d.toInt < (n6 : Int) → Un [] [(83, 83)] [] u u126 → IC u126 → Hd D (cw C A) (va_A (cw C A u) s.heap.size) s.heap u126 H locs → lv_has ls 6 [(5, .int y124d), (4, .int y125d), (0, .ref (A 16)), (1, .ref (A (52 + q0))), (2, .int a1), (3, .int a2)] → W p l e (rmL 2 0 0) s m ar below meth c H locs 0 0 Q (F0 m 6 ls []) := by
    intro n6
    induction n6 with
    | zero => intro ls y124d y125d u126 H locs ly124d my124d ly125d my125d hmun6 hUu126 hI hH hl; exfalso; omega
    | succ n6 ih6_126 =>
      intro ls y124d y125d u126 H locs ly124d my124d ly125d my125d hmun6 hUu126 hI hH hl
      refine lv_iload hx hb dX4_drawDay_6 (lv_at hl 0 rfl) ?_
      refine lv_bipush (v := 6) hx hb dX4_drawDay_8 (by decide) ?_
      refine lv_icmp_ge (tgt := 72) hx hb dX4_drawDay_10 (by decide) (fun c128 => ?_) (fun c128 => ?_)
      · have c128 := cLE (x := 6) (y := y124d) (X := 6) (Y := y124d.toInt) (by decide) rfl c128
        refine lv_iload hx hb dX4_drawDay_72 (lv_at hl 1 rfl) ?_
        exact hret _ _ _ _ y125d _ dX4_drawDay_74 (n_b rfl (by omega) (by omega)) ⟨hI, (Un.tr Un.rf hUu126 rfl rfl rfl), ⟨by omega, by omega⟩⟩ hH
      · have c128 := cNLE (x := 6) (y := y124d) (X := 6) (Y := y124d.toInt) (by decide) rfl c128
        refine lv_aload_n hx hb dX4_drawDay_13 rfl (lv_at hl 2 rfl) ?_
        refine va_get (ci := 4) (v := .ref (A 83)) (C := RX4) (T := TX4) (N := 4) hx hb hts (fun w h => uc_in w (inX4 w h)) hown hK hH.1 16 (cwc16 C A u126) rfl 2 (by decide) (hts _ (uc_in _ q_f371)) (fun _ h9 => h9) rfl dX4_drawDay_14 ?_
        refine lv_iload hx hb dX4_drawDay_17 (lv_at hl 0 rfl) ?_
        refine lv_aload_n hx hb dX4_drawDay_19 rfl (lv_at hl 3 rfl) ?_
        refine lv_iload hx hb dX4_drawDay_20 (lv_at hl 0 rfl) ?_
        refine va_iald hx hb hK hH.1 (52 + q0) 1 (cwp C A u126 q0 hq0) rfl (i_ix rfl (by omega) (by omega)) dX4_drawDay_22 ?_
        refine p_any (fun z129 => ?_)
        refine r_iast (j := 83) hx hb hK hH 83 1 (cwc83 C A u126) rfl (i_ix rfl (by omega) (by omega)) (cwa83 C A u126) dX4_drawDay_23 (fun u130 eu130 H locs hH => ?_)
        have hI := hI.pa0 eu130 (by decide)
        refine lv_iload_n hx hb dX4_drawDay_24 rfl (lv_at hl 4 rfl) ?_
        refine lv_iload hx hb dX4_drawDay_25 (lv_at hl 0 rfl) ?_
        refine csS (n := 2) (As := [.int a1, .int y124d]) (rest := []) ⟨hx, hb, hml, hown, hts⟩ uc_in (kX5_has_0 l D C A u130 hI a1 A1 ha1 y124d y124d.toInt rfl) q_m1060 q_s641 q_i4 q_c642 hvX5_has ⟨(Nat.le_of_ble_eq_true rfl), (Nat.le_of_ble_eq_true rfl)⟩ ⟨(Nat.le_of_ble_eq_true rfl), (Nat.le_of_ble_eq_true rfl)⟩ hK hH.1 rfl hl.1 rfl (Nat.le_of_ble_eq_true rfl) dX4_drawDay_27 (fun r131 p132 => ?_)
        have p132 : 0 ≤ r131.toInt ∧ r131.toInt ≤ 1 := p132
        have j66_146 : ∀ (ls : Array Slot) (y142d : Int32) (u146 : St) (H : Heap) (locs : List Loc), 0 ≤ y142d.toInt → y142d.toInt ≤ 1 → Un [] [(83, 83)] [] u130 u146 → IC u146 → Hd D (cw C A) (va_A (cw C A u) s.heap.size) s.heap u146 H locs → lv_has ls 6 [(5, .int y124d), (4, .int y142d), (0, .ref (A 16)), (1, .ref (A (52 + q0))), (2, .int a1), (3, .int a2)] → W p l e (rmL 2 0 0) s m ar below meth c H locs 0 0 Q (F0 m 66 ls []) := by
          intro ls y142d u146 H locs ly142d my142d hUu146 hI hH hl
          obtain ⟨z148, ez148⟩ : ∃ z, z = y124d + Int32.ofInt 1 := ⟨_, rfl⟩
          have hz148 : z148.toInt = y124d.toInt + 1 := by rw [ez148]; exact tt_add rfl (by decide) (by omega) (by omega)
          refine lv_iinc (v := z148) (lv' := [(5, .int z148), (4, .int y142d), (0, .ref (A 16)), (1, .ref (A (52 + q0))), (2, .int a1), (3, .int a2)]) hx hb dX4_drawDay_66 hl (k := 0) rfl ez148.symm (by decide) rfl (fun ls hl => ?_)
          refine lv_goto (tgt := 6) hx hb dX4_drawDay_69 (by decide) ?_
          exact ih6_126 ls z148 y142d u146 _ _ (by have q9 := (show z148.toInt = (y124d.toInt + 1) from hz148); omega) (by have q9 := (show z148.toInt = (y124d.toInt + 1) from hz148); omega) (by omega) (by omega) (by have q9 := (show z148.toInt = (y124d.toInt + 1) from hz148); omega) (Un.tr (Un.sa hUu126 rfl eu130) hUu146 rfl rfl rfl) hI hH hl
        refine lv_if_eq (tgt := 66) hx hb dX4_drawDay_30 (by decide) (fun c133 => ?_) (fun c133 => ?_)
        · have c133 := cEQ (x := r131) (y := 0) (X := r131.toInt) (Y := 0) rfl (by decide) c133
          exact j66_146 ls y125d u130 _ _ (by omega) (by omega) Un.rf hI hH hl
        · have c133 := cNE (x := r131) (y := 0) (X := r131.toInt) (Y := 0) rfl (by decide) c133
          refine lv_aload_n hx hb dX4_drawDay_33 rfl (lv_at hl 3 rfl) ?_
          refine lv_iload hx hb dX4_drawDay_34 (lv_at hl 0 rfl) ?_
          refine va_iald hx hb hK hH.1 (52 + q0) 1 (cwp C A u130 q0 hq0) rfl (i_ix rfl (by omega) (by omega)) dX4_drawDay_36 ?_
          refine p_any (fun z149 => ?_)
          refine lv_sipush (v := 10000) hx hb dX4_drawDay_37 (by decide) ?_
          refine lv_icmp_eq (tgt := 66) hx hb dX4_drawDay_40 (by decide) (fun c150 => ?_) (fun c150 => ?_)
          · have c150 := cEQ (x := z149) (y := 10000) (X := z149.toInt) (Y := 10000) rfl (by decide) c150
            exact j66_146 ls y125d u130 _ _ (by omega) (by omega) Un.rf hI hH hl
          · refine lv_aload_n hx hb dX4_drawDay_43 rfl (lv_at hl 2 rfl) ?_
            refine cvI (n := 0) (As := []) (rest := []) ⟨hx, hb, hml, hown, hts⟩ uc_in (kX4_draw_0 l D C A u130 hI  _) q_m1121 q_n1123 q_p48 q_i10 q_c1124 hvX4_draw ⟨(Nat.le_of_ble_eq_true rfl), (Nat.le_of_ble_eq_true rfl)⟩ ⟨(Nat.le_of_ble_eq_true rfl), (Nat.le_of_ble_eq_true rfl)⟩ hK hH (fun q h => Or.inr h) Bl0 (fun _ _ _ => trivial) 4 16 rfl (cwc16 C A u130) rfl hl.1 rfl (Nat.le_of_ble_eq_true rfl) dX4_drawDay_44 (fun r152 u151 H locs p153 hH => ?_)
            obtain ⟨hI, hUu151, p153⟩ := p153
            refine lv_iload_n hx hb dX4_drawDay_47 rfl (lv_at hl 5 rfl) ?_
            refine lv_icmp_ge (tgt := 66) hx hb dX4_drawDay_48 (by decide) (fun c154 => ?_) (fun c154 => ?_)
            · have c154 := cLE (x := a2) (y := r152) (X := A2) (Y := r152.toInt) ha2 rfl c154
              exact j66_146 ls y125d u151 _ _ (by omega) (by omega) (Un.tr Un.rf hUu151 rfl rfl rfl) hI hH hl
            · have c154 := cNLE (x := a2) (y := r152) (X := A2) (Y := r152.toInt) ha2 rfl c154
              refine lv_aload_n hx hb dX4_drawDay_51 rfl (lv_at hl 2 rfl) ?_
              refine va_get (ci := 4) (v := .ref (A 83)) (C := RX4) (T := TX4) (N := 4) hx hb hts (fun w h => uc_in w (inX4 w h)) hown hK hH.1 16 (cwc16 C A u151) rfl 2 (by decide) (hts _ (uc_in _ q_f371)) (fun _ h9 => h9) rfl dX4_drawDay_52 ?_
              refine lv_iload hx hb dX4_drawDay_55 (lv_at hl 0 rfl) ?_
              refine lv_dup2_11 hx hb dX4_drawDay_57 rfl rfl ?_
              refine va_iald hx hb hK hH.1 83 1 (cwc83 C A u151) rfl (i_ix rfl (by omega) (by omega)) dX4_drawDay_58 ?_
              refine pv_i (v := z129) ((congrFun (hUu151.2.1 83 rfl) _).trans (ga_el eu130)) ?_
              refine lv_bipush (v := 30) hx hb dX4_drawDay_59 (by decide) ?_
              refine lv_iadd hx hb dX4_drawDay_61 ?_
              refine p_any (fun z155 => ?_)
              refine r_iast (j := 83) hx hb hK hH 83 1 (cwc83 C A u151) rfl (i_ix rfl (by omega) (by omega)) (cwa83 C A u151) dX4_drawDay_62 (fun u156 eu156 H locs hH => ?_)
              have hI := hI.pa0 eu156 (by decide)
              refine lv_iconst (v := 1) hx hb dX4_drawDay_63 (by decide) ?_
              refine lv_istore (lv' := [(4, .int 1), (5, .int y124d), (0, .ref (A 16)), (1, .ref (A (52 + q0))), (2, .int a1), (3, .int a2)]) hx hb dX4_drawDay_64 hl (by decide) rfl (fun ls hl => ?_)
              exact j66_146 ls 1 u156 _ _ (by decide) (by decide) (Un.sa (Un.tr Un.rf hUu151 rfl rfl rfl) rfl eu156) hI hH (lv_sub hl [1, 0, 2, 3, 4, 5] rfl)
  exact lp6_126 7 ls 0 0 u _ _ (by decide) (by decide) (by decide) (by decide) (by have q9 : (0 : Int32).toInt = 0 := (by decide); omega) Un.rf hI hH hl
set_option maxHeartbeats 4000000 in
set_option maxRecDepth 100000 in
theorem kX9_drawn_0 (l : Launch) (D : va_G) (C : Nat → ClassId) (A : Nat → Nat) (u : St) (hI : IC u) (a0 : Int32) (A0 : Int) (ha0 : a0.toInt = A0) (a1 : Int32) (A1 : Int) (ha1 : a1.toInt = A1) (sz : Nat) : MetI l yX9_drawn cX9_drawn 6 (some .int) 3 [.ref (A 0), .int a0, .int a1] D (tyl C) (cw C A) X0 u sz (fun r u' => IC u' ∧ Un [] [(83, 83)] [] u u' ∧ (True)) := by
  refine mI (by decide) (Nat.le_of_ble_eq_true rfl) ?_
  intro p e s m below meth c ls ar Q hx hb hml hown hts hK hH hX hl hret
  have hown : s.vm.findClass RX9 = some m.cls := hown
  have hl : lv_has ls 6 [(0, .ref (A 0)), (1, .int a0), (2, .int a1)] := hl
  refine lv_iload_n hx hb dX9_drawn_0 rfl (lv_at hl 1 rfl) ?_
  refine lv_iconst (v := 0) hx hb dX9_drawn_1 (by decide) ?_
  refine lv_ldcw (v := 2000000000) hx hb hown (hts _ (uc_in _ q_k1112)) dX9_drawn_2 ?_
  refine csS (n := 3) (As := [.int a0, .int 0, .int 2000000000]) (rest := []) ⟨hx, hb, hml, hown, hts⟩ uc_in (kX9_isWithin_0 l D C A u hI a0 A0 ha0 (0) 0 (by decide) (2000000000) 2000000000 (by decide)) q_m651 q_s652 q_i1 q_c653 hvX9_isWithin ⟨(Nat.le_of_ble_eq_true rfl), (Nat.le_of_ble_eq_true rfl)⟩ ⟨(Nat.le_of_ble_eq_true rfl), (Nat.le_of_ble_eq_true rfl)⟩ hK hH.1 rfl hl.1 rfl (Nat.le_of_ble_eq_true rfl) dX9_drawn_5 (fun r1 p2 => ?_)
  rcases p2 with ⟨e9, f3, f4⟩ | ⟨e9, fn5⟩
  · subst e9
    refine lv_if_eq (tgt := 27) hx hb dX9_drawn_8 (by decide) (fun c6 => absurd c6 (by decide)) (fun c6 => ?_)
    refine lv_iload_n hx hb dX9_drawn_11 rfl (lv_at hl 2 rfl) ?_
    refine lv_iconst (v := 0) hx hb dX9_drawn_12 (by decide) ?_
    refine lv_iconst (v := 1) hx hb dX9_drawn_13 (by decide) ?_
    refine csS (n := 3) (As := [.int a1, .int 0, .int 1]) (rest := []) ⟨hx, hb, hml, hown, hts⟩ uc_in (kX9_isWithin_0 l D C A u hI a1 A1 ha1 (0) 0 (by decide) (1) 1 (by decide)) q_m651 q_s652 q_i1 q_c653 hvX9_isWithin ⟨(Nat.le_of_ble_eq_true rfl), (Nat.le_of_ble_eq_true rfl)⟩ ⟨(Nat.le_of_ble_eq_true rfl), (Nat.le_of_ble_eq_true rfl)⟩ hK hH.1 rfl hl.1 rfl (Nat.le_of_ble_eq_true rfl) dX9_drawn_14 (fun r7 p8 => ?_)
    rcases p8 with ⟨e9, f9, f10⟩ | ⟨e9, fn11⟩
    · subst e9
      refine lv_if_eq (tgt := 27) hx hb dX9_drawn_17 (by decide) (fun c12 => absurd c12 (by decide)) (fun c12 => ?_)
      refine lv_aload_n hx hb dX9_drawn_20 rfl (lv_at hl 0 rfl) ?_
      refine cvS (n := 0) (As := []) (rest := []) ⟨hx, hb, hml, hown, hts⟩ uc_in (kX9_hasTown_0 l D C A u hI ) q_m678 q_n680 q_p18 q_i1 q_c681 hvX9_hasTown ⟨(Nat.le_of_ble_eq_true rfl), (Nat.le_of_ble_eq_true rfl)⟩ ⟨(Nat.le_of_ble_eq_true rfl), (Nat.le_of_ble_eq_true rfl)⟩ hK hH.1 9 0 rfl (cwc0 C A u) rfl hl.1 rfl (Nat.le_of_ble_eq_true rfl) dX9_drawn_21 (fun r13 p14 => ?_)
      have p14 : 0 ≤ r13.toInt ∧ r13.toInt ≤ 1 := p14
      refine lv_if_ne (tgt := 30) hx hb dX9_drawn_24 (by decide) (fun c15 => ?_) (fun c15 => ?_)
      · have c15 := cNE (x := r13) (y := 0) (X := r13.toInt) (Y := 0) rfl (by decide) c15
        refine lv_aload_n hx hb dX9_drawn_30 rfl (lv_at hl 0 rfl) ?_
        refine va_get (ci := 9) (v := .ref (A 16)) (C := RX9) (T := TX9) (N := 12) hx hb hts (fun w h => uc_in w (inX9 w h)) hown hK hH.1 0 (cwc0 C A u) rfl 11 (by decide) (hts _ (uc_in _ q_f394)) (fun _ h9 => h9) rfl dX9_drawn_31 ?_
        refine lv_iload_n hx hb dX9_drawn_34 rfl (lv_at hl 1 rfl) ?_
        refine cvU (n := 1) (As := [.int a0]) (rest := []) ⟨hx, hb, hml, hown, hts⟩ uc_in (kX4_begin_0 l D C A u hI a0 A0 ha0 _) q_m1113 q_n1114 q_e1115 q_i10 q_c1116 hvX4_begin ⟨(Nat.le_of_ble_eq_true rfl), (Nat.le_of_ble_eq_true rfl)⟩ ⟨(Nat.le_of_ble_eq_true rfl), (Nat.le_of_ble_eq_true rfl)⟩ hK hH (fun q h => Or.inr h) Bl0 (fun _ _ _ => trivial) 4 16 rfl (cwc16 C A u) rfl hl.1 rfl (Nat.le_of_ble_eq_true rfl) dX9_drawn_35 (fun u16 H locs p18 hH => ?_)
        obtain ⟨hI, hUu16, p18⟩ := p18
        refine lv_iconst (v := 0) hx hb dX9_drawn_38 (by decide) ?_
        refine lv_istore_n (lv' := [(3, .int 0), (0, .ref (A 0)), (1, .int a0), (2, .int a1)]) hx hb dX9_drawn_39 rfl hl (by decide) rfl (fun ls hl => ?_)
        refine lv_iconst (v := 0) hx hb dX9_drawn_40 (by decide) ?_
        refine lv_istore (lv' := [(4, .int 0), (3, .int 0), (0, .ref (A 0)), (1, .int a0), (2, .int a1)]) hx hb dX9_drawn_41 hl (by decide) rfl (fun ls hl => ?_)
        refine lv_iconst (v := 0) hx hb dX9_drawn_43 (by decide) ?_
        refine lv_istore (lv' := [(5, .int 0), (4, .int 0), (3, .int 0), (0, .ref (A 0)), (1, .int a0), (2, .int a1)]) hx hb dX9_drawn_44 hl (by decide) rfl (fun ls hl => ?_)
        have lp46_252 : ∀ (n46 : Nat) (ls : Array Slot) (y249d : Int32) (y250d : Int32) (y251d : Int32) (u252 : St) (H : Heap) (locs : List Loc), 0 ≤ y249d.toInt → y249d.toInt ≤ 7 → 7 - y249d.toInt < (n46 : Int) → Un [] [(83, 83)] [] u16 u252 → IC u252 → Hd D (cw C A) (va_A (cw C A u) s.heap.size) s.heap u252 H locs → lv_has ls 6 [(5, .int y249d), (4, .int y250d), (3, .int y251d), (0, .ref (A 0)), (2, .int a1)] → W p l e (rmL 3 0 0) s m ar below meth c H locs 0 0 Q (F0 m 46 ls []) := by
          intro n46
          induction n46 with
          | zero => intro ls y249d y250d y251d u252 H locs ly249d my249d hmun46 hUu252 hI hH hl; exfalso; omega
          | succ n46 ih46_252 =>
            intro ls y249d y250d y251d u252 H locs ly249d my249d hmun46 hUu252 hI hH hl
            refine lv_iload hx hb dX9_drawn_46 (lv_at hl 0 rfl) ?_
            refine lv_aload_n hx hb dX9_drawn_48 rfl (lv_at hl 3 rfl) ?_
            refine va_get (ci := 9) (v := .ref (A 7)) (C := RX9) (T := TX9) (N := 12) hx hb hts (fun w h => uc_in w (inX9 w h)) hown hK hH.1 0 (cwc0 C A u252) rfl 5 (by decide) (hts _ (uc_in _ q_f388)) (fun _ h9 => h9) rfl dX9_drawn_49 ?_
            refine va_get (ci := 5) (v := .int (gi u252 48)) (C := RX5) (T := TX5) (N := 4) hx hb hts (fun w h => uc_in w (inX5 w h)) hown hK hH.1 7 (cwc7 C A u252) rfl 0 (by decide) (hts _ (uc_in _ q_f164)) (fun _ h9 => h9) rfl dX9_drawn_52 ?_
            have b254 := hI.b48
            refine lv_icmp_ge (tgt := 143) hx hb dX9_drawn_55 (by decide) (fun c255 => ?_) (fun c255 => ?_)
            · have c255 := cLE (x := (gi u252 48)) (y := y249d) (X := ((gi u252 48)).toInt) (Y := y249d.toInt) rfl rfl c255
              refine lv_iload_n hx hb dX9_drawn_143 rfl (lv_at hl 4 rfl) ?_
              refine lv_if_ne (tgt := 151) hx hb dX9_drawn_144 (by decide) (fun c256 => ?_) (fun c256 => ?_)
              · have c256 := cNE (x := a1) (y := 0) (X := A1) (Y := 0) ha1 (by decide) c256
                refine lv_iload hx hb dX9_drawn_151 (lv_at hl 1 rfl) ?_
                exact hret _ _ _ _ y250d _ dX9_drawn_153 rfl ⟨hI, (Un.tr (Un.tr Un.rf hUu16 rfl rfl rfl) hUu252 rfl rfl rfl), trivial⟩ hH
              · have c256 := cEQ (x := a1) (y := 0) (X := A1) (Y := 0) ha1 (by decide) c256
                refine lv_iload_n hx hb dX9_drawn_147 rfl (lv_at hl 2 rfl) ?_
                refine lv_goto (tgt := 153) hx hb dX9_drawn_148 (by decide) ?_
                exact hret _ _ _ _ y251d _ dX9_drawn_153 rfl ⟨hI, (Un.tr (Un.tr Un.rf hUu16 rfl rfl rfl) hUu252 rfl rfl rfl), trivial⟩ hH
            · have c255 := cNLE (x := (gi u252 48)) (y := y249d) (X := ((gi u252 48)).toInt) (Y := y249d.toInt) rfl rfl c255
              refine lv_aload_n hx hb dX9_drawn_58 rfl (lv_at hl 3 rfl) ?_
              refine va_get (ci := 9) (v := .ref (A 16)) (C := RX9) (T := TX9) (N := 12) hx hb hts (fun w h => uc_in w (inX9 w h)) hown hK hH.1 0 (cwc0 C A u252) rfl 11 (by decide) (hts _ (uc_in _ q_f394)) (fun _ h9 => h9) rfl dX9_drawn_59 ?_
              refine lv_aload_n hx hb dX9_drawn_62 rfl (lv_at hl 3 rfl) ?_
              refine va_get (ci := 9) (v := .ref (A 7)) (C := RX9) (T := TX9) (N := 12) hx hb hts (fun w h => uc_in w (inX9 w h)) hown hK hH.1 0 (cwc0 C A u252) rfl 5 (by decide) (hts _ (uc_in _ q_f388)) (fun _ h9 => h9) rfl dX9_drawn_63 ?_
              refine va_get (ci := 5) (v := .ref (A 19)) (C := RX5) (T := TX5) (N := 4) hx hb hts (fun w h => uc_in w (inX5 w h)) hown hK hH.1 7 (cwc7 C A u252) rfl 2 (by decide) (hts _ (uc_in _ q_f171)) (fun _ h9 => h9) rfl dX9_drawn_66 ?_
              refine lv_iload hx hb dX9_drawn_69 (lv_at hl 0 rfl) ?_
              refine r_aald hx hb hK hH.1 19 6 rfl (cwc19 C A u252) rfl (i_ix rfl (by omega) (by omega)) dX9_drawn_71 ?_
              obtain ⟨k257, hk257, ek257⟩ : ∃ k : Nat, (k : Int) = 32 + y249d.toInt ∧ k = 32 + Int32.toNatClampNeg y249d := ⟨_, by have q9 := i_cl (x := y249d) (X := y249d.toInt) rfl (by omega); omega, rfl⟩
              refine pv_v (v := .ref (A (52 + k257))) (by rw [ek257]; rfl) ?_
              refine lv_aload_n hx hb dX9_drawn_72 rfl (lv_at hl 3 rfl) ?_
              refine va_get (ci := 9) (v := .ref (A 7)) (C := RX9) (T := TX9) (N := 12) hx hb hts (fun w h => uc_in w (inX9 w h)) hown hK hH.1 0 (cwc0 C A u252) rfl 5 (by decide) (hts _ (uc_in _ q_f388)) (fun _ h9 => h9) rfl dX9_drawn_73 ?_
              refine va_get (ci := 5) (v := .ref (A 38)) (C := RX5) (T := TX5) (N := 4) hx hb hts (fun w h => uc_in w (inX5 w h)) hown hK hH.1 7 (cwc7 C A u252) rfl 3 (by decide) (hts _ (uc_in _ q_f175)) (fun _ h9 => h9) rfl dX9_drawn_76 ?_
              refine lv_iload hx hb dX9_drawn_79 (lv_at hl 0 rfl) ?_
              refine va_iald hx hb hK hH.1 38 1 (cwc38 C A u252) rfl (i_ix rfl (by omega) (by omega)) dX9_drawn_81 ?_
              refine p_any (fun z258 => ?_)
              refine lv_aload_n hx hb dX9_drawn_82 rfl (lv_at hl 3 rfl) ?_
              refine va_get (ci := 9) (v := .ref (A 2)) (C := RX9) (T := TX9) (N := 12) hx hb hts (fun w h => uc_in w (inX9 w h)) hown hK hH.1 0 (cwc0 C A u252) rfl 1 (by decide) (hts _ (uc_in _ q_f384)) (fun _ h9 => h9) rfl dX9_drawn_83 ?_
              refine va_get (ci := 7) (v := .int (gi u252 11)) (C := RX7) (T := TX7) (N := 16) hx hb hts (fun w h => uc_in w (inX7 w h)) hown hK hH.1 2 (cwc2 C A u252) rfl 3 (by decide) (hts _ (uc_in _ q_f80)) (fun _ h9 => h9) rfl dX9_drawn_86 ?_
              refine cvI (n := 3) (As := [.ref (A (52 + k257)), .int z258, .int (gi u252 11)]) (rest := []) ⟨hx, hb, hml, hown, hts⟩ uc_in (kX4_drawDay_0 l D C A u252 hI k257 (by omega) z258 z258.toInt rfl (gi u252 11) (((gi u252 11)).toInt) rfl _) q_m1117 q_n1118 q_e1119 q_i10 q_c1120 hvX4_drawDay ⟨(Nat.le_of_ble_eq_true rfl), (Nat.le_of_ble_eq_true rfl)⟩ ⟨(Nat.le_of_ble_eq_true rfl), (Nat.le_of_ble_eq_true rfl)⟩ hK hH (fun q h => Or.inr h) Bl0 (fun _ _ _ => trivial) 4 16 rfl (cwc16 C A u252) rfl hl.1 rfl (Nat.le_of_ble_eq_true rfl) dX9_drawn_89 (fun r260 u259 H locs p261 hH => ?_)
              obtain ⟨hI, hUu259, p261⟩ := p261
              have p261 : 0 ≤ r260.toInt ∧ r260.toInt ≤ 1 := p261
              have j104_274 : ∀ (ls : Array Slot) (y266d : Int32), lv_has ls 6 [(5, .int y249d), (4, .int y266d), (3, .int y251d), (0, .ref (A 0)), (2, .int a1)] → W p l e (rmL 3 0 0) s m ar below meth c H locs 0 0 Q (F0 m 104 ls []) := by
                intro ls y266d hl
                refine lv_iload_n hx hb dX9_drawn_104 rfl (lv_at hl 2 rfl) ?_
                refine lv_aload_n hx hb dX9_drawn_105 rfl (lv_at hl 3 rfl) ?_
                refine va_get (ci := 9) (v := .ref (A 16)) (C := RX9) (T := TX9) (N := 12) hx hb hts (fun w h => uc_in w (inX9 w h)) hown hK hH.1 0 (cwc0 C A u259) rfl 11 (by decide) (hts _ (uc_in _ q_f394)) (fun _ h9 => h9) rfl dX9_drawn_106 ?_
                refine va_get (ci := 4) (v := .ref (A 83)) (C := RX4) (T := TX4) (N := 4) hx hb hts (fun w h => uc_in w (inX4 w h)) hown hK hH.1 16 (cwc16 C A u259) rfl 2 (by decide) (hts _ (uc_in _ q_f372)) (fun _ h9 => h9) rfl dX9_drawn_109 ?_
                refine lv_aload_n hx hb dX9_drawn_112 rfl (lv_at hl 3 rfl) ?_
                refine va_get (ci := 9) (v := .ref (A 7)) (C := RX9) (T := TX9) (N := 12) hx hb hts (fun w h => uc_in w (inX9 w h)) hown hK hH.1 0 (cwc0 C A u259) rfl 5 (by decide) (hts _ (uc_in _ q_f388)) (fun _ h9 => h9) rfl dX9_drawn_113 ?_
                refine va_get (ci := 5) (v := .ref (A 38)) (C := RX5) (T := TX5) (N := 4) hx hb hts (fun w h => uc_in w (inX5 w h)) hown hK hH.1 7 (cwc7 C A u259) rfl 3 (by decide) (hts _ (uc_in _ q_f175)) (fun _ h9 => h9) rfl dX9_drawn_116 ?_
                refine lv_iload hx hb dX9_drawn_119 (lv_at hl 0 rfl) ?_
                refine va_iald hx hb hK hH.1 38 1 (cwc38 C A u259) rfl (i_ix rfl (by omega) (by omega)) dX9_drawn_121 ?_
                refine p_any (fun z276 => ?_)
                refine csS (n := 2) (As := [.ref (A 83), .int z276]) (rest := [.int y251d]) ⟨hx, hb, hml, hown, hts⟩ uc_in (kX5_noonOf_0 l D C A u259 hI 31 (by decide) z276 z276.toInt rfl) q_m609 q_s610 q_i4 q_c611 hvX5_noonOf ⟨(Nat.le_of_ble_eq_true rfl), (Nat.le_of_ble_eq_true rfl)⟩ ⟨(Nat.le_of_ble_eq_true rfl), (Nat.le_of_ble_eq_true rfl)⟩ hK hH.1 rfl hl.1 rfl (Nat.le_of_ble_eq_true rfl) dX9_drawn_122 (fun r277 p278 => ?_)
                refine lv_aload_n hx hb dX9_drawn_125 rfl (lv_at hl 3 rfl) ?_
                refine va_get (ci := 9) (v := .ref (A 2)) (C := RX9) (T := TX9) (N := 12) hx hb hts (fun w h => uc_in w (inX9 w h)) hown hK hH.1 0 (cwc0 C A u259) rfl 1 (by decide) (hts _ (uc_in _ q_f384)) (fun _ h9 => h9) rfl dX9_drawn_126 ?_
                refine va_get (ci := 7) (v := .int (gi u259 14)) (C := RX7) (T := TX7) (N := 16) hx hb hts (fun w h => uc_in w (inX7 w h)) hown hK hH.1 2 (cwc2 C A u259) rfl 6 (by decide) (hts _ (uc_in _ q_f91)) (fun _ h9 => h9) rfl dX9_drawn_129 ?_
                refine csS (n := 2) (As := [.int r277, .int (gi u259 14)]) (rest := [.int y251d]) ⟨hx, hb, hml, hown, hts⟩ uc_in (kX7_waitOf_0 l D C A u259 hI r277 r277.toInt rfl (gi u259 14) (((gi u259 14)).toInt) rfl) q_m671 q_s672 q_i3 q_c673 hvX7_waitOf ⟨(Nat.le_of_ble_eq_true rfl), (Nat.le_of_ble_eq_true rfl)⟩ ⟨(Nat.le_of_ble_eq_true rfl), (Nat.le_of_ble_eq_true rfl)⟩ hK hH.1 rfl hl.1 rfl (Nat.le_of_ble_eq_true rfl) dX9_drawn_132 (fun r279 p280 => ?_)
                refine lv_iadd hx hb dX9_drawn_135 ?_
                refine p_any (fun z281 => ?_)
                refine lv_istore_n (lv' := [(3, .int z281), (5, .int y249d), (4, .int y266d), (0, .ref (A 0)), (2, .int a1)]) hx hb dX9_drawn_136 rfl hl (by decide) rfl (fun ls hl => ?_)
                obtain ⟨z282, ez282⟩ : ∃ z, z = y249d + Int32.ofInt 1 := ⟨_, rfl⟩
                have hz282 : z282.toInt = y249d.toInt + 1 := by rw [ez282]; exact tt_add rfl (by decide) (by omega) (by omega)
                refine lv_iinc (v := z282) (lv' := [(5, .int z282), (3, .int z281), (4, .int y266d), (0, .ref (A 0)), (2, .int a1)]) hx hb dX9_drawn_137 hl (k := 1) rfl ez282.symm (by decide) rfl (fun ls hl => ?_)
                refine lv_goto (tgt := 46) hx hb dX9_drawn_140 (by decide) ?_
                exact ih46_252 ls z282 y266d z281 u259 _ _ (by have q9 := (show z282.toInt = (y249d.toInt + 1) from hz282); omega) (by have q9 := (show z282.toInt = (y249d.toInt + 1) from hz282); omega) (by have q9 := (show z282.toInt = (y249d.toInt + 1) from hz282); omega) (Un.tr hUu252 hUu259 rfl rfl rfl) hI hH (lv_sub hl [0, 2, 1, 3, 4] rfl)
              refine lv_if_eq (tgt := 104) hx hb dX9_drawn_92 (by decide) (fun c262 => ?_) (fun c262 => ?_)
              · have c262 := cEQ (x := r260) (y := 0) (X := r260.toInt) (Y := 0) rfl (by decide) c262
                exact j104_274 ls y250d hl
              · have c262 := cNE (x := r260) (y := 0) (X := r260.toInt) (Y := 0) rfl (by decide) c262
                refine lv_iload hx hb dX9_drawn_95 (lv_at hl 1 rfl) ?_
                refine lv_iconst (v := 1) hx hb dX9_drawn_97 (by decide) ?_
                refine lv_iload hx hb dX9_drawn_98 (lv_at hl 0 rfl) ?_
                refine lv_ishl hx hb dX9_drawn_100 ?_
                have gz283 := tt_shl1 (y := y249d) (Y := y249d.toInt) rfl (by omega) (by omega)
                refine p_bd (P := fun q => 1 ≤ q ∧ q ≤ 64) ⟨by omega, by omega⟩ (fun z284 bz284 => ?_)
                have bz284 : 1 ≤ z284.toInt ∧ z284.toInt ≤ 64 := bz284
                refine lv_ior hx hb dX9_drawn_101 ?_
                refine p_any (fun z285 => ?_)
                refine lv_istore (lv' := [(4, .int z285), (5, .int y249d), (3, .int y251d), (0, .ref (A 0)), (2, .int a1)]) hx hb dX9_drawn_102 hl (by decide) rfl (fun ls hl => ?_)
                exact j104_274 ls z285 (lv_sub hl [1, 0, 2, 3, 4] rfl)
        exact lp46_252 8 ls 0 0 0 u16 _ _ (by decide) (by decide) (by have q9 : (0 : Int32).toInt = 0 := (by decide); omega) Un.rf hI hH (lv_sub hl [0, 1, 2, 3, 5] rfl)
      · have c15 := cEQ (x := r13) (y := 0) (X := r13.toInt) (Y := 0) rfl (by decide) c15
        refine lv_bipush (v := (-2)) hx hb dX9_drawn_27 (by decide) ?_
        exact hret _ _ _ _ ((-2) : Int32) _ dX9_drawn_29 rfl ⟨hI, Un.rf, trivial⟩ hH
    · subst e9
      refine lv_if_eq (tgt := 27) hx hb dX9_drawn_17 (by decide) (fun c286 => ?_) (fun c286 => absurd c286 (by decide))
      refine lv_bipush (v := (-2)) hx hb dX9_drawn_27 (by decide) ?_
      exact hret _ _ _ _ ((-2) : Int32) _ dX9_drawn_29 rfl ⟨hI, Un.rf, trivial⟩ hH
  · subst e9
    refine lv_if_eq (tgt := 27) hx hb dX9_drawn_8 (by decide) (fun c287 => ?_) (fun c287 => absurd c287 (by decide))
    refine lv_bipush (v := (-2)) hx hb dX9_drawn_27 (by decide) ?_
    exact hret _ _ _ _ ((-2) : Int32) _ dX9_drawn_29 rfl ⟨hI, Un.rf, trivial⟩ hH
set_option maxHeartbeats 4000000 in
set_option maxRecDepth 100000 in
theorem kX9_end_0 (l : Launch) (D : va_G) (C : Nat → ClassId) (A : Nat → Nat) (u : St) (hI : IC u) (a0 : Int32) (A0 : Int) (ha0 : a0.toInt = A0) (sz : Nat) : MetI l yX9_end cX9_end 2 (some .int) 1 [.ref (A 0), .int a0] D (tyl C) (cw C A) X0 u sz (fun r u' => IC u' ∧ Un [(1, 1)] [] [] u u' ∧ ((-1) ≤ r.toInt ∧ r.toInt ≤ 800)) := by
  refine mI (by decide) (Nat.le_of_ble_eq_true rfl) ?_
  intro p e s m below meth c ls ar Q hx hb hml hown hts hK hH hX hl hret
  have hown : s.vm.findClass RX9 = some m.cls := hown
  have hl : lv_has ls 2 [(0, .ref (A 0)), (1, .int a0)] := hl
  refine lv_iload_n hx hb dX9_end_0 rfl (lv_at hl 1 rfl) ?_
  refine lv_if_lt (tgt := 15) hx hb dX9_end_1 (by decide) (fun c1 => ?_) (fun c1 => ?_)
  · have c1 := cLT (x := a0) (y := 0) (X := A0) (Y := 0) ha0 (by decide) c1
    refine lv_iconst (v := (-1)) hx hb dX9_end_15 (by decide) ?_
    exact hret _ _ _ _ ((-1) : Int32) _ dX9_end_16 rfl ⟨hI, Un.rf, ⟨by decide, by decide⟩⟩ hH
  · have c1 := cNLT (x := a0) (y := 0) (X := A0) (Y := 0) ha0 (by decide) c1
    refine lv_iload_n hx hb dX9_end_4 rfl (lv_at hl 1 rfl) ?_
    refine lv_aload_n hx hb dX9_end_5 rfl (lv_at hl 0 rfl) ?_
    refine va_get (ci := 9) (v := .ref (A 1)) (C := RX9) (T := TX9) (N := 12) hx hb hts (fun w h => uc_in w (inX9 w h)) hown hK hH.1 0 (cwc0 C A u) rfl 0 (by decide) (hts _ (uc_in _ q_f383)) (fun _ h9 => h9) rfl dX9_end_6 ?_
    refine va_get (ci := 6) (v := .int (gi u 1)) (C := RX6) (T := TX6) (N := 8) hx hb hts (fun w h => uc_in w (inX6 w h)) hown hK hH.1 1 (cwc1 C A u) rfl 1 (by decide) (hts _ (uc_in _ q_f34)) (fun _ h9 => h9) rfl dX9_end_9 ?_
    have b2 := hI.b1
    refine lv_icmp_le (tgt := 17) hx hb dX9_end_12 (by decide) (fun c3 => ?_) (fun c3 => ?_)
    · have c3 := cLE (x := a0) (y := (gi u 1)) (X := A0) (Y := ((gi u 1)).toInt) ha0 rfl c3
      refine lv_aload_n hx hb dX9_end_17 rfl (lv_at hl 0 rfl) ?_
      refine va_get (ci := 9) (v := .ref (A 1)) (C := RX9) (T := TX9) (N := 12) hx hb hts (fun w h => uc_in w (inX9 w h)) hown hK hH.1 0 (cwc0 C A u) rfl 0 (by decide) (hts _ (uc_in _ q_f383)) (fun _ h9 => h9) rfl dX9_end_18 ?_
      refine lv_iload_n hx hb dX9_end_21 rfl (lv_at hl 1 rfl) ?_
      refine r_put (j := 1) (ci := 6) (C := RX6) (T := TX6) (N := 8) hx hb hts (fun w h => uc_in w (inX6 w h)) tyX6 tyX6_ok nmX6 hown hK hH 1 (cwc1 C A u) rfl 1 (by decide) (hts _ (uc_in _ q_f34)) (fun _ h9 => h9) rfl (by decide +kernel) (Nat.le_of_ble_eq_true rfl) (cws1 C A u _) dX9_end_22 (fun u4 eu4 H locs hH => ?_)
      have hI := hI.s1 eu4 ha0 (by omega) (by omega)
      refine lv_iload_n hx hb dX9_end_25 rfl (lv_at hl 1 rfl) ?_
      exact hret _ _ _ _ a0 _ dX9_end_26 rfl ⟨hI, (Un.si Un.rf rfl eu4), ⟨by have q9 := (show a0.toInt = A0 from ha0); omega, by have q9 := (show a0.toInt = A0 from ha0); omega⟩⟩ hH
    · have c3 := cNLE (x := a0) (y := (gi u 1)) (X := A0) (Y := ((gi u 1)).toInt) ha0 rfl c3
      refine lv_iconst (v := (-1)) hx hb dX9_end_15 (by decide) ?_
      exact hret _ _ _ _ ((-1) : Int32) _ dX9_end_16 rfl ⟨hI, Un.rf, ⟨by decide, by decide⟩⟩ hH
set_option maxHeartbeats 4000000 in
set_option maxRecDepth 100000 in
theorem kX7_addAct_0 (l : Launch) (D : va_G) (C : Nat → ClassId) (A : Nat → Nat) (u : St) (hI : IC u) (a0 : Int32) (A0 : Int) (ha0 : a0.toInt = A0) (a1 : Int32) (A1 : Int) (ha1 : a1.toInt = A1) (a2 : Int32) (A2 : Int) (ha2 : a2.toInt = A2) (sz : Nat) : MetV l yX7_addAct cX7_addAct 4 1 [.ref (A 2), .int a0, .int a1, .int a2] D (tyl C) (cw C A) X0 u sz (fun u' => IC u' ∧ Un [(15, 15)] [(23, 23), (24, 24), (25, 25)] [] u u' ∧ True) := by
  refine mV (by decide) (Nat.le_of_ble_eq_true rfl) ?_
  intro p e s m below meth c ls ar Q hx hb hml hown hts hK hH hX hl hret
  have hown : s.vm.findClass RX7 = some m.cls := hown
  have hl : lv_has ls 4 [(0, .ref (A 2)), (1, .int a0), (2, .int a1), (3, .int a2)] := hl
  refine lv_aload_n hx hb dX7_addAct_0 rfl (lv_at hl 0 rfl) ?_
  refine va_get (ci := 7) (v := .int (gi u 15)) (C := RX7) (T := TX7) (N := 16) hx hb hts (fun w h => uc_in w (inX7 w h)) hown hK hH.1 2 (cwc2 C A u) rfl 7 (by decide) (hts _ (uc_in _ q_f92)) (fun _ h9 => h9) rfl dX7_addAct_1 ?_
  have b1 := hI.b15
  refine lv_bipush (v := 40) hx hb dX7_addAct_4 (by decide) ?_
  refine lv_icmp_ge (tgt := 49) hx hb dX7_addAct_6 (by decide) (fun c2 => ?_) (fun c2 => ?_)
  · have c2 := cLE (x := 40) (y := (gi u 15)) (X := 40) (Y := ((gi u 15)).toInt) (by decide) rfl c2
    exact hret _ _ _ _ _ dX7_addAct_49 ⟨hI, Un.rf, trivial⟩ hH
  · have c2 := cNLE (x := 40) (y := (gi u 15)) (X := 40) (Y := ((gi u 15)).toInt) (by decide) rfl c2
    refine lv_aload_n hx hb dX7_addAct_9 rfl (lv_at hl 0 rfl) ?_
    refine va_get (ci := 7) (v := .ref (A 23)) (C := RX7) (T := TX7) (N := 16) hx hb hts (fun w h => uc_in w (inX7 w h)) hown hK hH.1 2 (cwc2 C A u) rfl 13 (by decide) (hts _ (uc_in _ q_f115)) (fun _ h9 => h9) rfl dX7_addAct_10 ?_
    refine lv_aload_n hx hb dX7_addAct_13 rfl (lv_at hl 0 rfl) ?_
    refine va_get (ci := 7) (v := .int (gi u 15)) (C := RX7) (T := TX7) (N := 16) hx hb hts (fun w h => uc_in w (inX7 w h)) hown hK hH.1 2 (cwc2 C A u) rfl 7 (by decide) (hts _ (uc_in _ q_f92)) (fun _ h9 => h9) rfl dX7_addAct_14 ?_
    refine lv_iload_n hx hb dX7_addAct_17 rfl (lv_at hl 1 rfl) ?_
    refine r_iast (j := 23) hx hb hK hH 23 1 (cwc23 C A u) rfl (i_ix rfl (by omega) (by omega)) (cwa23 C A u) dX7_addAct_18 (fun u3 eu3 H locs hH => ?_)
    have hI := hI.pa0 eu3 (by decide)
    refine lv_aload_n hx hb dX7_addAct_19 rfl (lv_at hl 0 rfl) ?_
    refine va_get (ci := 7) (v := .ref (A 24)) (C := RX7) (T := TX7) (N := 16) hx hb hts (fun w h => uc_in w (inX7 w h)) hown hK hH.1 2 (cwc2 C A u3) rfl 14 (by decide) (hts _ (uc_in _ q_f116)) (fun _ h9 => h9) rfl dX7_addAct_20 ?_
    refine lv_aload_n hx hb dX7_addAct_23 rfl (lv_at hl 0 rfl) ?_
    refine va_get (ci := 7) (v := .int (gi u3 15)) (C := RX7) (T := TX7) (N := 16) hx hb hts (fun w h => uc_in w (inX7 w h)) hown hK hH.1 2 (cwc2 C A u3) rfl 7 (by decide) (hts _ (uc_in _ q_f92)) (fun _ h9 => h9) rfl dX7_addAct_24 ?_
    refine pv_i (v := (gi u 15)) ((gi_sa eu3).trans rfl) ?_
    refine lv_iload_n hx hb dX7_addAct_27 rfl (lv_at hl 2 rfl) ?_
    refine r_iast (j := 24) hx hb hK hH 24 1 (cwc24 C A u3) rfl (i_ix rfl (by omega) (by omega)) (cwa24 C A u3) dX7_addAct_28 (fun u4 eu4 H locs hH => ?_)
    have hI := hI.pa0 eu4 (by decide)
    refine lv_aload_n hx hb dX7_addAct_29 rfl (lv_at hl 0 rfl) ?_
    refine va_get (ci := 7) (v := .ref (A 25)) (C := RX7) (T := TX7) (N := 16) hx hb hts (fun w h => uc_in w (inX7 w h)) hown hK hH.1 2 (cwc2 C A u4) rfl 15 (by decide) (hts _ (uc_in _ q_f117)) (fun _ h9 => h9) rfl dX7_addAct_30 ?_
    refine lv_aload_n hx hb dX7_addAct_33 rfl (lv_at hl 0 rfl) ?_
    refine va_get (ci := 7) (v := .int (gi u4 15)) (C := RX7) (T := TX7) (N := 16) hx hb hts (fun w h => uc_in w (inX7 w h)) hown hK hH.1 2 (cwc2 C A u4) rfl 7 (by decide) (hts _ (uc_in _ q_f92)) (fun _ h9 => h9) rfl dX7_addAct_34 ?_
    refine pv_i (v := (gi u 15)) ((gi_sa eu4).trans ((gi_sa eu3).trans rfl)) ?_
    refine lv_iload_n hx hb dX7_addAct_37 rfl (lv_at hl 3 rfl) ?_
    refine r_iast (j := 25) hx hb hK hH 25 1 (cwc25 C A u4) rfl (i_ix rfl (by omega) (by omega)) (cwa25 C A u4) dX7_addAct_38 (fun u5 eu5 H locs hH => ?_)
    have hI := hI.pa0 eu5 (by decide)
    refine lv_aload_n hx hb dX7_addAct_39 rfl (lv_at hl 0 rfl) ?_
    refine lv_dup hx hb dX7_addAct_40 rfl ?_
    refine va_get (ci := 7) (v := .int (gi u5 15)) (C := RX7) (T := TX7) (N := 16) hx hb hts (fun w h => uc_in w (inX7 w h)) hown hK hH.1 2 (cwc2 C A u5) rfl 7 (by decide) (hts _ (uc_in _ q_f92)) (fun _ h9 => h9) rfl dX7_addAct_41 ?_
    refine pv_i (v := (gi u 15)) ((gi_sa eu5).trans ((gi_sa eu4).trans ((gi_sa eu3).trans rfl))) ?_
    refine lv_iconst (v := 1) hx hb dX7_addAct_44 (by decide) ?_
    refine lv_iadd hx hb dX7_addAct_45 ?_
    refine p_nm (tt_add (X := ((gi u 15)).toInt) (Y := 1) rfl (by decide) (by omega) (by omega)) (fun z6 hz6 => ?_)
    refine r_put (j := 15) (ci := 7) (C := RX7) (T := TX7) (N := 16) hx hb hts (fun w h => uc_in w (inX7 w h)) tyX7 tyX7_ok nmX7 hown hK hH 2 (cwc2 C A u5) rfl 7 (by decide) (hts _ (uc_in _ q_f92)) (fun _ h9 => h9) rfl (by decide +kernel) (Nat.le_of_ble_eq_true rfl) (cws15 C A u5 _) dX7_addAct_46 (fun u7 eu7 H locs hH => ?_)
    have hI := hI.s15 eu7 hz6 (by omega) (by omega)
    exact hret _ _ _ _ _ dX7_addAct_49 ⟨hI, (Un.si (Un.sa (Un.sa (Un.sa Un.rf rfl eu3) rfl eu4) rfl eu5) rfl eu7), trivial⟩ hH
set_option maxHeartbeats 4000000 in
set_option maxRecDepth 100000 in
theorem kX9_act_0 (l : Launch) (D : va_G) (C : Nat → ClassId) (A : Nat → Nat) (u : St) (hI : IC u) (a0 : Int32) (A0 : Int) (ha0 : a0.toInt = A0) (a1 : Int32) (A1 : Int) (ha1 : a1.toInt = A1) (a2 : Int32) (A2 : Int) (ha2 : a2.toInt = A2) (sz : Nat) : MetV l yX9_act cX9_act 4 4 [.ref (A 0), .int a0, .int a1, .int a2] D (tyl C) (cw C A) X0 u sz (fun u' => IC u' ∧ Un [(15, 15), (48, 48), (49, 49)] [(23, 23), (24, 24), (25, 25), (38, 38), (84, 90)] [] u u' ∧ True) := by
  refine mV (by decide) (Nat.le_of_ble_eq_true rfl) ?_
  intro p e s m below meth c ls ar Q hx hb hml hown hts hK hH hX hl hret
  have hown : s.vm.findClass RX9 = some m.cls := hown
  have hl : lv_has ls 4 [(0, .ref (A 0)), (1, .int a0), (2, .int a1), (3, .int a2)] := hl
  refine lv_aload_n hx hb dX9_act_0 rfl (lv_at hl 0 rfl) ?_
  refine va_get (ci := 9) (v := .ref (A 2)) (C := RX9) (T := TX9) (N := 12) hx hb hts (fun w h => uc_in w (inX9 w h)) hown hK hH.1 0 (cwc0 C A u) rfl 1 (by decide) (hts _ (uc_in _ q_f384)) (fun _ h9 => h9) rfl dX9_act_1 ?_
  refine lv_iload_n hx hb dX9_act_4 rfl (lv_at hl 1 rfl) ?_
  refine lv_iload_n hx hb dX9_act_5 rfl (lv_at hl 2 rfl) ?_
  refine lv_iload_n hx hb dX9_act_6 rfl (lv_at hl 3 rfl) ?_
  refine cvU (n := 3) (As := [.int a0, .int a1, .int a2]) (rest := []) ⟨hx, hb, hml, hown, hts⟩ uc_in (kX7_addAct_0 l D C A u hI a0 A0 ha0 a1 A1 ha1 a2 A2 ha2 _) q_m1084 q_n1085 q_e1086 q_i3 q_c1087 hvX7_addAct ⟨(Nat.le_of_ble_eq_true rfl), (Nat.le_of_ble_eq_true rfl)⟩ ⟨(Nat.le_of_ble_eq_true rfl), (Nat.le_of_ble_eq_true rfl)⟩ hK hH (fun q h => Or.inr h) Bl0 (fun _ _ _ => trivial) 7 2 rfl (cwc2 C A u) rfl hl.1 rfl (Nat.le_of_ble_eq_true rfl) dX9_act_7 (fun u1 H locs p3 hH => ?_)
  obtain ⟨hI, hUu1, p3⟩ := p3
  refine lv_aload_n hx hb dX9_act_10 rfl (lv_at hl 0 rfl) ?_
  refine va_get (ci := 9) (v := .ref (A 7)) (C := RX9) (T := TX9) (N := 12) hx hb hts (fun w h => uc_in w (inX9 w h)) hown hK hH.1 0 (cwc0 C A u1) rfl 5 (by decide) (hts _ (uc_in _ q_f388)) (fun _ h9 => h9) rfl dX9_act_11 ?_
  refine lv_aload_n hx hb dX9_act_14 rfl (lv_at hl 0 rfl) ?_
  refine va_get (ci := 9) (v := .ref (A 2)) (C := RX9) (T := TX9) (N := 12) hx hb hts (fun w h => uc_in w (inX9 w h)) hown hK hH.1 0 (cwc0 C A u1) rfl 1 (by decide) (hts _ (uc_in _ q_f384)) (fun _ h9 => h9) rfl dX9_act_15 ?_
  refine cvU (n := 1) (As := [.ref (A 2)]) (rest := []) ⟨hx, hb, hml, hown, hts⟩ uc_in (kX5_settle_0 l D C A u1 hI  _) q_m563 q_n564 q_e565 q_i4 q_c566 hvX5_settle ⟨(Nat.le_of_ble_eq_true rfl), (Nat.le_of_ble_eq_true rfl)⟩ ⟨(Nat.le_of_ble_eq_true rfl), (Nat.le_of_ble_eq_true rfl)⟩ hK hH (fun q h => Or.inr h) Bl0 (fun _ _ _ => trivial) 5 7 rfl (cwc7 C A u1) rfl hl.1 rfl (Nat.le_of_ble_eq_true rfl) dX9_act_18 (fun u4 H locs p6 hH => ?_)
  obtain ⟨hI, hUu4, p6⟩ := p6
  exact hret _ _ _ _ _ dX9_act_21 ⟨hI, (Un.tr (Un.tr Un.rf hUu1 rfl rfl rfl) hUu4 rfl rfl rfl), trivial⟩ hH
set_option maxHeartbeats 4000000 in
set_option maxRecDepth 100000 in
theorem kX9_enter_0 (l : Launch) (D : va_G) (C : Nat → ClassId) (A : Nat → Nat) (u : St) (hI : IC u) (a0 : Int32) (A0 : Int) (ha0 : a0.toInt = A0) (a1 : Int32) (A1 : Int) (ha1 : a1.toInt = A1) (a2 : Int32) (A2 : Int) (ha2 : a2.toInt = A2) (sz : Nat) : MetI l yX9_enter cX9_enter 5 (some .int) 5 [.ref (A 0), .int a0, .int a1, .int a2] D (tyl C) (cw C A) X0 u sz (fun r u' => IC u' ∧ Un [(15, 15), (48, 48), (49, 49)] [(23, 23), (24, 24), (25, 25), (38, 38), (84, 90)] [] u u' ∧ ((-5) ≤ r.toInt ∧ r.toInt ≤ 1)) := by
  refine mI (by decide) (Nat.le_of_ble_eq_true rfl) ?_
  intro p e s m below meth c ls ar Q hx hb hml hown hts hK hH hX hl hret
  have hown : s.vm.findClass RX9 = some m.cls := hown
  have hl : lv_has ls 5 [(0, .ref (A 0)), (1, .int a0), (2, .int a1), (3, .int a2)] := hl
  refine lv_aload_n hx hb dX9_enter_0 rfl (lv_at hl 0 rfl) ?_
  refine lv_iload_n hx hb dX9_enter_1 rfl (lv_at hl 1 rfl) ?_
  refine cvS (n := 1) (As := [.int a0]) (rest := []) ⟨hx, hb, hml, hown, hts⟩ uc_in (kX9_isClock_0 l D C A u hI a0 A0 ha0) q_m589 q_n591 q_p11 q_i1 q_c592 hvX9_isClock ⟨(Nat.le_of_ble_eq_true rfl), (Nat.le_of_ble_eq_true rfl)⟩ ⟨(Nat.le_of_ble_eq_true rfl), (Nat.le_of_ble_eq_true rfl)⟩ hK hH.1 9 0 rfl (cwc0 C A u) rfl hl.1 rfl (Nat.le_of_ble_eq_true rfl) dX9_enter_2 (fun r1 p2 => ?_)
  rcases p2 with ⟨e9, f3, f4⟩ | e9
  · subst e9
    have b6 := hI.b49
    refine lv_if_eq (tgt := 25) hx hb dX9_enter_5 (by decide) (fun c7 => absurd c7 (by decide)) (fun c7 => ?_)
    refine lv_aload_n hx hb dX9_enter_8 rfl (lv_at hl 0 rfl) ?_
    refine lv_iload_n hx hb dX9_enter_9 rfl (lv_at hl 2 rfl) ?_
    refine cvS (n := 1) (As := [.int a1]) (rest := []) ⟨hx, hb, hml, hown, hts⟩ uc_in (kX9_isDay_0 l D C A u hI a1 A1 ha1) q_m597 q_n599 q_p12 q_i1 q_c600 hvX9_isDay ⟨(Nat.le_of_ble_eq_true rfl), (Nat.le_of_ble_eq_true rfl)⟩ ⟨(Nat.le_of_ble_eq_true rfl), (Nat.le_of_ble_eq_true rfl)⟩ hK hH.1 9 0 rfl (cwc0 C A u) rfl hl.1 rfl (Nat.le_of_ble_eq_true rfl) dX9_enter_10 (fun r8 p9 => ?_)
    rcases p9 with ⟨e9, f10, f11⟩ | e9
    · subst e9
      have b13 := hI.b48
      refine lv_if_eq (tgt := 25) hx hb dX9_enter_13 (by decide) (fun c14 => absurd c14 (by decide)) (fun c14 => ?_)
      refine lv_iload_n hx hb dX9_enter_16 rfl (lv_at hl 3 rfl) ?_
      refine lv_iconst (v := 0) hx hb dX9_enter_17 (by decide) ?_
      refine lv_iconst (v := 1) hx hb dX9_enter_18 (by decide) ?_
      refine csS (n := 3) (As := [.int a2, .int 0, .int 1]) (rest := []) ⟨hx, hb, hml, hown, hts⟩ uc_in (kX9_isWithin_0 l D C A u hI a2 A2 ha2 (0) 0 (by decide) (1) 1 (by decide)) q_m651 q_s652 q_i1 q_c653 hvX9_isWithin ⟨(Nat.le_of_ble_eq_true rfl), (Nat.le_of_ble_eq_true rfl)⟩ ⟨(Nat.le_of_ble_eq_true rfl), (Nat.le_of_ble_eq_true rfl)⟩ hK hH.1 rfl hl.1 rfl (Nat.le_of_ble_eq_true rfl) dX9_enter_19 (fun r15 p16 => ?_)
      rcases p16 with ⟨e9, f17, f18⟩ | ⟨e9, fn19⟩
      · subst e9
        refine lv_if_ne (tgt := 28) hx hb dX9_enter_22 (by decide) (fun c20 => ?_) (fun c20 => absurd c20 (by decide))
        refine lv_aload_n hx hb dX9_enter_28 rfl (lv_at hl 0 rfl) ?_
        refine va_get (ci := 9) (v := .ref (A 2)) (C := RX9) (T := TX9) (N := 12) hx hb hts (fun w h => uc_in w (inX9 w h)) hown hK hH.1 0 (cwc0 C A u) rfl 1 (by decide) (hts _ (uc_in _ q_f384)) (fun _ h9 => h9) rfl dX9_enter_29 ?_
        refine va_get (ci := 7) (v := .int (gi u 15)) (C := RX7) (T := TX7) (N := 16) hx hb hts (fun w h => uc_in w (inX7 w h)) hown hK hH.1 2 (cwc2 C A u) rfl 7 (by decide) (hts _ (uc_in _ q_f94)) (fun _ h9 => h9) rfl dX9_enter_32 ?_
        have b21 := hI.b15
        refine lv_bipush (v := 40) hx hb dX9_enter_35 (by decide) ?_
        refine lv_icmp_lt (tgt := 43) hx hb dX9_enter_37 (by decide) (fun c22 => ?_) (fun c22 => ?_)
        · have c22 := cLT (x := (gi u 15)) (y := 40) (X := ((gi u 15)).toInt) (Y := 40) rfl (by decide) c22
          refine lv_aload_n hx hb dX9_enter_43 rfl (lv_at hl 0 rfl) ?_
          refine va_get (ci := 9) (v := .ref (A 7)) (C := RX9) (T := TX9) (N := 12) hx hb hts (fun w h => uc_in w (inX9 w h)) hown hK hH.1 0 (cwc0 C A u) rfl 5 (by decide) (hts _ (uc_in _ q_f388)) (fun _ h9 => h9) rfl dX9_enter_44 ?_
          refine lv_iload_n hx hb dX9_enter_47 rfl (lv_at hl 1 rfl) ?_
          refine lv_iload_n hx hb dX9_enter_48 rfl (lv_at hl 2 rfl) ?_
          refine cvS (n := 2) (As := [.int a0, .int a1]) (rest := []) ⟨hx, hb, hml, hown, hts⟩ uc_in (kX5_isAlive_0 l D C A u hI a0 A0 ha0 a1 A1 ha1 (by omega) (by omega)) q_m654 q_n637 q_e638 q_i4 q_c639 hvX5_isAlive ⟨(Nat.le_of_ble_eq_true rfl), (Nat.le_of_ble_eq_true rfl)⟩ ⟨(Nat.le_of_ble_eq_true rfl), (Nat.le_of_ble_eq_true rfl)⟩ hK hH.1 5 7 rfl (cwc7 C A u) rfl hl.1 rfl (Nat.le_of_ble_eq_true rfl) dX9_enter_49 (fun r23 p24 => ?_)
          have p24 : 0 ≤ r23.toInt ∧ r23.toInt ≤ 1 := p24
          have j60_32 : ∀ (ls : Array Slot) (y26d : Int32), 0 ≤ y26d.toInt → y26d.toInt ≤ 1 → lv_has ls 5 [(0, .ref (A 0)), (1, .int a0), (2, .int a1), (3, .int a2)] → W p l e (rmL 5 0 0) s m ar below meth c s.heap [] 0 0 Q (F0 m 60 ls [.int y26d]) := by
            intro ls y26d ly26d my26d hl
            refine lv_istore (lv' := [(4, .int y26d), (0, .ref (A 0)), (1, .int a0), (2, .int a1), (3, .int a2)]) hx hb dX9_enter_60 hl (by decide) rfl (fun ls hl => ?_)
            refine lv_aload_n hx hb dX9_enter_62 rfl (lv_at hl 1 rfl) ?_
            refine lv_iload_n hx hb dX9_enter_63 rfl (lv_at hl 4 rfl) ?_
            refine lv_iconst (v := 1) hx hb dX9_enter_64 (by decide) ?_
            have j73_39 : ∀ (ls : Array Slot) (y35d : Int32), 3 ≤ y35d.toInt → y35d.toInt ≤ 4 → lv_has ls 5 [(4, .int y26d), (1, .int a0), (2, .int a1)] → W p l e (rmL 5 0 0) s m ar below meth c s.heap [] 0 0 Q (F0 m 73 ls [.int y35d, .ref (A 0)]) := by
              intro ls y35d ly35d my35d hl
              refine lv_iload_n hx hb dX9_enter_73 rfl (lv_at hl 1 rfl) ?_
              refine lv_iload_n hx hb dX9_enter_74 rfl (lv_at hl 2 rfl) ?_
              refine cvU (n := 3) (As := [.int y35d, .int a0, .int a1]) (rest := []) ⟨hx, hb, hml, hown, hts⟩ uc_in (kX9_act_0 l D C A u hI y35d y35d.toInt rfl a0 A0 ha0 a1 A1 ha1 _) q_m1080 q_n1082 q_p47 q_i1 q_c1083 hvX9_act ⟨(Nat.le_of_ble_eq_true rfl), (Nat.le_of_ble_eq_true rfl)⟩ ⟨(Nat.le_of_ble_eq_true rfl), (Nat.le_of_ble_eq_true rfl)⟩ hK hH (fun q h => Or.inr h) Bl0 (fun _ _ _ => trivial) 9 0 rfl (cwc0 C A u) rfl hl.1 rfl (Nat.le_of_ble_eq_true rfl) dX9_enter_75 (fun u41 H locs p43 hH => ?_)
              obtain ⟨hI, hUu41, p43⟩ := p43
              refine lv_iload hx hb dX9_enter_78 (lv_at hl 0 rfl) ?_
              exact hret _ _ _ _ y26d _ dX9_enter_80 rfl ⟨hI, (Un.tr Un.rf hUu41 rfl rfl rfl), ⟨by omega, by omega⟩⟩ hH
            refine lv_icmp_ne (tgt := 72) hx hb dX9_enter_65 (by decide) (fun c34 => ?_) (fun c34 => ?_)
            · have c34 := cNE (x := a2) (y := 1) (X := A2) (Y := 1) ha2 (by decide) c34
              refine lv_iconst (v := 4) hx hb dX9_enter_72 (by decide) ?_
              exact j73_39 ls 4 (by decide) (by decide) (lv_sub hl [0, 2, 3] rfl)
            · have c34 := cEQ (x := a2) (y := 1) (X := A2) (Y := 1) ha2 (by decide) c34
              refine lv_iconst (v := 3) hx hb dX9_enter_68 (by decide) ?_
              refine lv_goto (tgt := 73) hx hb dX9_enter_69 (by decide) ?_
              exact j73_39 ls 3 (by decide) (by decide) (lv_sub hl [0, 2, 3] rfl)
          refine lv_if_eq (tgt := 59) hx hb dX9_enter_52 (by decide) (fun c25 => ?_) (fun c25 => ?_)
          · have c25 := cEQ (x := r23) (y := 0) (X := r23.toInt) (Y := 0) rfl (by decide) c25
            refine lv_iconst (v := 1) hx hb dX9_enter_59 (by decide) ?_
            exact j60_32 ls 1 (by decide) (by decide) hl
          · have c25 := cNE (x := r23) (y := 0) (X := r23.toInt) (Y := 0) rfl (by decide) c25
            refine lv_iconst (v := 0) hx hb dX9_enter_55 (by decide) ?_
            refine lv_goto (tgt := 60) hx hb dX9_enter_56 (by decide) ?_
            exact j60_32 ls 0 (by decide) (by decide) hl
        · have c22 := cNLT (x := (gi u 15)) (y := 40) (X := ((gi u 15)).toInt) (Y := 40) rfl (by decide) c22
          refine lv_bipush (v := (-5)) hx hb dX9_enter_40 (by decide) ?_
          exact hret _ _ _ _ ((-5) : Int32) _ dX9_enter_42 rfl ⟨hI, Un.rf, ⟨by decide, by decide⟩⟩ hH
      · subst e9
        refine lv_if_ne (tgt := 28) hx hb dX9_enter_22 (by decide) (fun c44 => absurd c44 (by decide)) (fun c44 => ?_)
        refine lv_bipush (v := (-2)) hx hb dX9_enter_25 (by decide) ?_
        exact hret _ _ _ _ ((-2) : Int32) _ dX9_enter_27 rfl ⟨hI, Un.rf, ⟨by decide, by decide⟩⟩ hH
    · subst e9
      refine lv_if_eq (tgt := 25) hx hb dX9_enter_13 (by decide) (fun c45 => ?_) (fun c45 => absurd c45 (by decide))
      refine lv_bipush (v := (-2)) hx hb dX9_enter_25 (by decide) ?_
      exact hret _ _ _ _ ((-2) : Int32) _ dX9_enter_27 rfl ⟨hI, Un.rf, ⟨by decide, by decide⟩⟩ hH
  · subst e9
    refine lv_if_eq (tgt := 25) hx hb dX9_enter_5 (by decide) (fun c46 => ?_) (fun c46 => absurd c46 (by decide))
    refine lv_bipush (v := (-2)) hx hb dX9_enter_25 (by decide) ?_
    exact hret _ _ _ _ ((-2) : Int32) _ dX9_enter_27 rfl ⟨hI, Un.rf, ⟨by decide, by decide⟩⟩ hH
set_option maxHeartbeats 4000000 in
set_option maxRecDepth 100000 in
theorem kX9_fault_0 (l : Launch) (D : va_G) (C : Nat → ClassId) (A : Nat → Nat) (u : St) (hI : IC u) (a0 : Int32) (A0 : Int) (ha0 : a0.toInt = A0) : Met l yX9_fault (uc yX9_fault cX9_fault 2 (some .int)) (rmL 1 0 0) (va_Pc [.ref (A 0), .int a0] (PreR D (tyl C) (cw C A u))) (vp_Si (fun r => True)) 0 0 (fun _ => False) := by
  refine mS (by decide) (Nat.le_of_ble_eq_true rfl) ?_
  intro p e s m below meth c ls ar Q hx hb hml hown hts hK hP hl hret
  have hown : s.vm.findClass RX9 = some m.cls := hown
  have hl : lv_has ls 2 [(0, .ref (A 0)), (1, .int a0)] := hl
  refine lv_iload_n hx hb dX9_fault_0 rfl (lv_at hl 1 rfl) ?_
  by_cases c1 : a0 = 0
  · subst c1
    refine lv_lookup (off := 27) (tgt := 28) hx hb dX9_fault_1 (by decide) (by decide) (by decide) ?_
    refine lv_aload_n hx hb dX9_fault_28 rfl (lv_at hl 0 rfl) ?_
    refine va_get (ci := 9) (v := .ref (A 1)) (C := RX9) (T := TX9) (N := 12) hx hb hts (fun w h => uc_in w (inX9 w h)) hown hK hP 0 (cwc0 C A u) rfl 0 (by decide) (hts _ (uc_in _ q_f383)) (fun _ h9 => h9) rfl dX9_fault_29 ?_
    refine va_get (ci := 6) (v := .int (gi u 2)) (C := RX6) (T := TX6) (N := 8) hx hb hts (fun w h => uc_in w (inX6 w h)) hown hK hP 1 (cwc1 C A u) rfl 2 (by decide) (hts _ (uc_in _ q_f37)) (fun _ h9 => h9) rfl dX9_fault_32 ?_
    exact hret _ _ (gi u 2) dX9_fault_35 rfl trivial
  by_cases c2 : a0 = 1
  · subst c2
    refine lv_lookup (off := 35) (tgt := 36) hx hb dX9_fault_1 (by decide) (by decide) (by decide) ?_
    refine lv_aload_n hx hb dX9_fault_36 rfl (lv_at hl 0 rfl) ?_
    refine va_get (ci := 9) (v := .ref (A 1)) (C := RX9) (T := TX9) (N := 12) hx hb hts (fun w h => uc_in w (inX9 w h)) hown hK hP 0 (cwc0 C A u) rfl 0 (by decide) (hts _ (uc_in _ q_f383)) (fun _ h9 => h9) rfl dX9_fault_37 ?_
    refine va_get (ci := 6) (v := .int (gi u 3)) (C := RX6) (T := TX6) (N := 8) hx hb hts (fun w h => uc_in w (inX6 w h)) hown hK hP 1 (cwc1 C A u) rfl 3 (by decide) (hts _ (uc_in _ q_f39)) (fun _ h9 => h9) rfl dX9_fault_40 ?_
    exact hret _ _ (gi u 3) dX9_fault_43 rfl trivial
  refine lv_lookup (off := 43) (tgt := 44) hx hb dX9_fault_1 (by decide) ((lv_osw c1 rfl).trans ((lv_osw c2 rfl).trans rfl)) (by decide) ?_
  refine lv_iconst (v := (-1)) hx hb dX9_fault_44 (by decide) ?_
  exact hret _ _ ((-1) : Int32) dX9_fault_45 rfl trivial
set_option maxHeartbeats 4000000 in
set_option maxRecDepth 100000 in
theorem kX6_take_0 (l : Launch) (D : va_G) (C : Nat → ClassId) (A : Nat → Nat) (u : St) (hI : IC u) (a0 : Int32) (A0 : Int) (ha0 : a0.toInt = A0) (sz : Nat) : MetV l yX6_take cX6_take 3 1 [.ref (A 1), .int a0] D (tyl C) (cw C A) X0 u sz (fun u' => IC u' ∧ Un [(1, 1)] [(22, 22)] [] u u' ∧ True) := by
  refine mV (by decide) (Nat.le_of_ble_eq_true rfl) ?_
  intro p e s m below meth c ls ar Q hx hb hml hown hts hK hH hX hl hret
  have hown : s.vm.findClass RX6 = some m.cls := hown
  have hl : lv_has ls 3 [(0, .ref (A 1)), (1, .int a0)] := hl
  refine lv_bipush (v := 24) hx hb dX6_take_0 (by decide) ?_
  refine lv_istore_n (lv' := [(2, .int 24), (0, .ref (A 1)), (1, .int a0)]) hx hb dX6_take_2 rfl hl (by decide) rfl (fun ls hl => ?_)
  have lp3_80 : ∀ (n3 : Nat) (ls : Array Slot) (y79d : Int32) (u80 : St) (H : Heap) (locs : List Loc), (-8) ≤ y79d.toInt → y79d.toInt ≤ 24 → y79d.toInt - (-8) < (n3 : Int) → Un [(1, 1)] [(22, 22)] [] u u80 → IC u80 → Hd D (cw C A) (va_A (cw C A u) s.heap.size) s.heap u80 H locs → lv_has ls 3 [(2, .int y79d), (0, .ref (A 1)), (1, .int a0)] → W p l e (rmL 1 0 0) s m ar below meth c H locs 0 0 Q (F0 m 3 ls []) := by
    intro n3
    induction n3 with
    | zero => intro ls y79d u80 H locs ly79d my79d hmun3 hUu80 hI hH hl; exfalso; omega
    | succ n3 ih3_80 =>
      intro ls y79d u80 H locs ly79d my79d hmun3 hUu80 hI hH hl
      refine lv_iload_n hx hb dX6_take_3 rfl (lv_at hl 0 rfl) ?_
      refine lv_if_lt (tgt := 46) hx hb dX6_take_4 (by decide) (fun c82 => ?_) (fun c82 => ?_)
      · have c82 := cLT (x := y79d) (y := 0) (X := y79d.toInt) (Y := 0) rfl (by decide) c82
        exact hret _ _ _ _ _ dX6_take_46 ⟨hI, (Un.tr Un.rf hUu80 rfl rfl rfl), trivial⟩ hH
      · have c82 := cNLT (x := y79d) (y := 0) (X := y79d.toInt) (Y := 0) rfl (by decide) c82
        refine lv_aload_n hx hb dX6_take_7 rfl (lv_at hl 1 rfl) ?_
        refine va_get (ci := 6) (v := .int (gi u80 1)) (C := RX6) (T := TX6) (N := 8) hx hb hts (fun w h => uc_in w (inX6 w h)) hown hK hH.1 1 (cwc1 C A u80) rfl 1 (by decide) (hts _ (uc_in _ q_f35)) (fun _ h9 => h9) rfl dX6_take_8 ?_
        have b83 := hI.b1
        refine lv_sipush (v := 800) hx hb dX6_take_11 (by decide) ?_
        refine lv_icmp_ge (tgt := 46) hx hb dX6_take_14 (by decide) (fun c84 => ?_) (fun c84 => ?_)
        · have c84 := cLE (x := 800) (y := (gi u80 1)) (X := 800) (Y := ((gi u80 1)).toInt) (by decide) rfl c84
          exact hret _ _ _ _ _ dX6_take_46 ⟨hI, (Un.tr Un.rf hUu80 rfl rfl rfl), trivial⟩ hH
        · have c84 := cNLE (x := 800) (y := (gi u80 1)) (X := 800) (Y := ((gi u80 1)).toInt) (by decide) rfl c84
          refine lv_aload_n hx hb dX6_take_17 rfl (lv_at hl 1 rfl) ?_
          refine va_get (ci := 6) (v := .ref (A 22)) (C := RX6) (T := TX6) (N := 8) hx hb hts (fun w h => uc_in w (inX6 w h)) hown hK hH.1 1 (cwc1 C A u80) rfl 0 (by decide) (hts _ (uc_in _ q_f33)) (fun _ h9 => h9) rfl dX6_take_18 ?_
          refine lv_aload_n hx hb dX6_take_21 rfl (lv_at hl 1 rfl) ?_
          refine va_get (ci := 6) (v := .int (gi u80 1)) (C := RX6) (T := TX6) (N := 8) hx hb hts (fun w h => uc_in w (inX6 w h)) hown hK hH.1 1 (cwc1 C A u80) rfl 1 (by decide) (hts _ (uc_in _ q_f35)) (fun _ h9 => h9) rfl dX6_take_22 ?_
          refine lv_iload_n hx hb dX6_take_25 rfl (lv_at hl 2 rfl) ?_
          refine lv_iload_n hx hb dX6_take_26 rfl (lv_at hl 0 rfl) ?_
          refine lv_ishr hx hb dX6_take_27 ?_
          refine p_any (fun z85 => ?_)
          refine lv_i2b hx hb dX6_take_28 rfl ?_
          refine p_any (fun z86 => ?_)
          refine r_bast (j := 22) hx hb hK hH 22 0 (cwc22 C A u80) rfl (i_ix rfl (by omega) (by omega)) (cwa22 C A u80) dX6_take_29 (fun u87 eu87 H locs hH => ?_)
          have hI := hI.pa0 eu87 (by decide)
          refine lv_aload_n hx hb dX6_take_30 rfl (lv_at hl 1 rfl) ?_
          refine lv_dup hx hb dX6_take_31 rfl ?_
          refine va_get (ci := 6) (v := .int (gi u87 1)) (C := RX6) (T := TX6) (N := 8) hx hb hts (fun w h => uc_in w (inX6 w h)) hown hK hH.1 1 (cwc1 C A u87) rfl 1 (by decide) (hts _ (uc_in _ q_f35)) (fun _ h9 => h9) rfl dX6_take_32 ?_
          refine pv_i (v := (gi u80 1)) ((gi_sa eu87).trans rfl) ?_
          refine lv_iconst (v := 1) hx hb dX6_take_35 (by decide) ?_
          refine lv_iadd hx hb dX6_take_36 ?_
          refine p_nm (tt_add (X := ((gi u80 1)).toInt) (Y := 1) rfl (by decide) (by omega) (by omega)) (fun z88 hz88 => ?_)
          refine r_put (j := 1) (ci := 6) (C := RX6) (T := TX6) (N := 8) hx hb hts (fun w h => uc_in w (inX6 w h)) tyX6 tyX6_ok nmX6 hown hK hH 1 (cwc1 C A u87) rfl 1 (by decide) (hts _ (uc_in _ q_f35)) (fun _ h9 => h9) rfl (by decide +kernel) (Nat.le_of_ble_eq_true rfl) (cws1 C A u87 _) dX6_take_37 (fun u89 eu89 H locs hH => ?_)
          have hI := hI.s1 eu89 hz88 (by omega) (by omega)
          obtain ⟨z90, ez90⟩ : ∃ z, z = y79d + Int32.ofInt (-8) := ⟨_, rfl⟩
          have hz90 : z90.toInt = y79d.toInt + (-8) := by rw [ez90]; exact tt_add rfl (by decide) (by omega) (by omega)
          refine lv_iinc (v := z90) (lv' := [(2, .int z90), (0, .ref (A 1)), (1, .int a0)]) hx hb dX6_take_40 hl (k := 0) rfl ez90.symm (by decide) rfl (fun ls hl => ?_)
          refine lv_goto (tgt := 3) hx hb dX6_take_43 (by decide) ?_
          exact ih3_80 ls z90 u89 _ _ (by have q9 := (show z90.toInt = (y79d.toInt + (-8)) from hz90); omega) (by have q9 := (show z90.toInt = (y79d.toInt + (-8)) from hz90); omega) (by have q9 := (show z90.toInt = (y79d.toInt + (-8)) from hz90); omega) (Un.si (Un.sa hUu80 rfl eu87) rfl eu89) hI hH hl
  exact lp3_80 33 ls 24 u _ _ (by decide) (by decide) (by have q9 : (24 : Int32).toInt = 24 := (by decide); omega) Un.rf hI hH hl
set_option maxHeartbeats 4000000 in
set_option maxRecDepth 100000 in
theorem kX9_feed_0 (l : Launch) (D : va_G) (C : Nat → ClassId) (A : Nat → Nat) (u : St) (hI : IC u) (a0 : Int32) (A0 : Int) (ha0 : a0.toInt = A0) (a1 : Int32) (A1 : Int) (ha1 : a1.toInt = A1) (a2 : Int32) (A2 : Int) (ha2 : a2.toInt = A2) (a3 : Int32) (A3 : Int) (ha3 : a3.toInt = A3) (a4 : Int32) (A4 : Int) (ha4 : a4.toInt = A4) (sz : Nat) : MetI l yX9_feed cX9_feed 6 (some .int) 2 [.ref (A 0), .int a0, .int a1, .int a2, .int a3, .int a4] D (tyl C) (cw C A) X0 u sz (fun r u' => IC u' ∧ Un [(1, 1)] [(22, 22)] [] u u' ∧ ((-1) ≤ r.toInt ∧ r.toInt ≤ 800)) := by
  refine mI (by decide) (Nat.le_of_ble_eq_true rfl) ?_
  intro p e s m below meth c ls ar Q hx hb hml hown hts hK hH hX hl hret
  have hown : s.vm.findClass RX9 = some m.cls := hown
  have hl : lv_has ls 6 [(0, .ref (A 0)), (1, .int a0), (2, .int a1), (3, .int a2), (4, .int a3), (5, .int a4)] := hl
  refine lv_aload_n hx hb dX9_feed_0 rfl (lv_at hl 0 rfl) ?_
  refine va_get (ci := 9) (v := .ref (A 1)) (C := RX9) (T := TX9) (N := 12) hx hb hts (fun w h => uc_in w (inX9 w h)) hown hK hH.1 0 (cwc0 C A u) rfl 0 (by decide) (hts _ (uc_in _ q_f383)) (fun _ h9 => h9) rfl dX9_feed_1 ?_
  refine va_get (ci := 6) (v := .int (gi u 1)) (C := RX6) (T := TX6) (N := 8) hx hb hts (fun w h => uc_in w (inX6 w h)) hown hK hH.1 1 (cwc1 C A u) rfl 1 (by decide) (hts _ (uc_in _ q_f34)) (fun _ h9 => h9) rfl dX9_feed_4 ?_
  have b1 := hI.b1
  refine lv_bipush (v := 20) hx hb dX9_feed_7 (by decide) ?_
  refine lv_iadd hx hb dX9_feed_9 ?_
  refine p_nm (tt_add (X := ((gi u 1)).toInt) (Y := 20) rfl (by decide) (by omega) (by omega)) (fun z2 hz2 => ?_)
  refine lv_sipush (v := 800) hx hb dX9_feed_10 (by decide) ?_
  refine lv_icmp_le (tgt := 18) hx hb dX9_feed_13 (by decide) (fun c3 => ?_) (fun c3 => ?_)
  · have c3 := cLE (x := z2) (y := 800) (X := (((gi u 1)).toInt + 20)) (Y := 800) hz2 (by decide) c3
    refine lv_aload_n hx hb dX9_feed_18 rfl (lv_at hl 0 rfl) ?_
    refine va_get (ci := 9) (v := .ref (A 1)) (C := RX9) (T := TX9) (N := 12) hx hb hts (fun w h => uc_in w (inX9 w h)) hown hK hH.1 0 (cwc0 C A u) rfl 0 (by decide) (hts _ (uc_in _ q_f383)) (fun _ h9 => h9) rfl dX9_feed_19 ?_
    refine lv_iload_n hx hb dX9_feed_22 rfl (lv_at hl 1 rfl) ?_
    refine cvU (n := 1) (As := [.int a0]) (rest := []) ⟨hx, hb, hml, hown, hts⟩ uc_in (kX6_take_0 l D C A u hI a0 A0 ha0 _) q_m424 q_n425 q_e426 q_i2 q_c427 hvX6_take ⟨(Nat.le_of_ble_eq_true rfl), (Nat.le_of_ble_eq_true rfl)⟩ ⟨(Nat.le_of_ble_eq_true rfl), (Nat.le_of_ble_eq_true rfl)⟩ hK hH (fun q h => Or.inr h) Bl0 (fun _ _ _ => trivial) 6 1 rfl (cwc1 C A u) rfl hl.1 rfl (Nat.le_of_ble_eq_true rfl) dX9_feed_23 (fun u4 H locs p6 hH => ?_)
    obtain ⟨hI, hUu4, p6⟩ := p6
    refine lv_aload_n hx hb dX9_feed_26 rfl (lv_at hl 0 rfl) ?_
    refine va_get (ci := 9) (v := .ref (A 1)) (C := RX9) (T := TX9) (N := 12) hx hb hts (fun w h => uc_in w (inX9 w h)) hown hK hH.1 0 (cwc0 C A u4) rfl 0 (by decide) (hts _ (uc_in _ q_f383)) (fun _ h9 => h9) rfl dX9_feed_27 ?_
    refine lv_iload_n hx hb dX9_feed_30 rfl (lv_at hl 2 rfl) ?_
    refine cvU (n := 1) (As := [.int a1]) (rest := []) ⟨hx, hb, hml, hown, hts⟩ uc_in (kX6_take_0 l D C A u4 hI a1 A1 ha1 _) q_m424 q_n425 q_e426 q_i2 q_c427 hvX6_take ⟨(Nat.le_of_ble_eq_true rfl), (Nat.le_of_ble_eq_true rfl)⟩ ⟨(Nat.le_of_ble_eq_true rfl), (Nat.le_of_ble_eq_true rfl)⟩ hK hH (fun q h => Or.inr h) Bl0 (fun _ _ _ => trivial) 6 1 rfl (cwc1 C A u4) rfl hl.1 rfl (Nat.le_of_ble_eq_true rfl) dX9_feed_31 (fun u7 H locs p9 hH => ?_)
    obtain ⟨hI, hUu7, p9⟩ := p9
    refine lv_aload_n hx hb dX9_feed_34 rfl (lv_at hl 0 rfl) ?_
    refine va_get (ci := 9) (v := .ref (A 1)) (C := RX9) (T := TX9) (N := 12) hx hb hts (fun w h => uc_in w (inX9 w h)) hown hK hH.1 0 (cwc0 C A u7) rfl 0 (by decide) (hts _ (uc_in _ q_f383)) (fun _ h9 => h9) rfl dX9_feed_35 ?_
    refine lv_iload_n hx hb dX9_feed_38 rfl (lv_at hl 3 rfl) ?_
    refine cvU (n := 1) (As := [.int a2]) (rest := []) ⟨hx, hb, hml, hown, hts⟩ uc_in (kX6_take_0 l D C A u7 hI a2 A2 ha2 _) q_m424 q_n425 q_e426 q_i2 q_c427 hvX6_take ⟨(Nat.le_of_ble_eq_true rfl), (Nat.le_of_ble_eq_true rfl)⟩ ⟨(Nat.le_of_ble_eq_true rfl), (Nat.le_of_ble_eq_true rfl)⟩ hK hH (fun q h => Or.inr h) Bl0 (fun _ _ _ => trivial) 6 1 rfl (cwc1 C A u7) rfl hl.1 rfl (Nat.le_of_ble_eq_true rfl) dX9_feed_39 (fun u10 H locs p12 hH => ?_)
    obtain ⟨hI, hUu10, p12⟩ := p12
    refine lv_aload_n hx hb dX9_feed_42 rfl (lv_at hl 0 rfl) ?_
    refine va_get (ci := 9) (v := .ref (A 1)) (C := RX9) (T := TX9) (N := 12) hx hb hts (fun w h => uc_in w (inX9 w h)) hown hK hH.1 0 (cwc0 C A u10) rfl 0 (by decide) (hts _ (uc_in _ q_f383)) (fun _ h9 => h9) rfl dX9_feed_43 ?_
    refine lv_iload hx hb dX9_feed_46 (lv_at hl 4 rfl) ?_
    refine cvU (n := 1) (As := [.int a3]) (rest := []) ⟨hx, hb, hml, hown, hts⟩ uc_in (kX6_take_0 l D C A u10 hI a3 A3 ha3 _) q_m424 q_n425 q_e426 q_i2 q_c427 hvX6_take ⟨(Nat.le_of_ble_eq_true rfl), (Nat.le_of_ble_eq_true rfl)⟩ ⟨(Nat.le_of_ble_eq_true rfl), (Nat.le_of_ble_eq_true rfl)⟩ hK hH (fun q h => Or.inr h) Bl0 (fun _ _ _ => trivial) 6 1 rfl (cwc1 C A u10) rfl hl.1 rfl (Nat.le_of_ble_eq_true rfl) dX9_feed_48 (fun u13 H locs p15 hH => ?_)
    obtain ⟨hI, hUu13, p15⟩ := p15
    refine lv_aload_n hx hb dX9_feed_51 rfl (lv_at hl 0 rfl) ?_
    refine va_get (ci := 9) (v := .ref (A 1)) (C := RX9) (T := TX9) (N := 12) hx hb hts (fun w h => uc_in w (inX9 w h)) hown hK hH.1 0 (cwc0 C A u13) rfl 0 (by decide) (hts _ (uc_in _ q_f383)) (fun _ h9 => h9) rfl dX9_feed_52 ?_
    refine lv_iload hx hb dX9_feed_55 (lv_at hl 5 rfl) ?_
    refine cvU (n := 1) (As := [.int a4]) (rest := []) ⟨hx, hb, hml, hown, hts⟩ uc_in (kX6_take_0 l D C A u13 hI a4 A4 ha4 _) q_m424 q_n425 q_e426 q_i2 q_c427 hvX6_take ⟨(Nat.le_of_ble_eq_true rfl), (Nat.le_of_ble_eq_true rfl)⟩ ⟨(Nat.le_of_ble_eq_true rfl), (Nat.le_of_ble_eq_true rfl)⟩ hK hH (fun q h => Or.inr h) Bl0 (fun _ _ _ => trivial) 6 1 rfl (cwc1 C A u13) rfl hl.1 rfl (Nat.le_of_ble_eq_true rfl) dX9_feed_57 (fun u16 H locs p18 hH => ?_)
    obtain ⟨hI, hUu16, p18⟩ := p18
    refine lv_aload_n hx hb dX9_feed_60 rfl (lv_at hl 0 rfl) ?_
    refine va_get (ci := 9) (v := .ref (A 1)) (C := RX9) (T := TX9) (N := 12) hx hb hts (fun w h => uc_in w (inX9 w h)) hown hK hH.1 0 (cwc0 C A u16) rfl 0 (by decide) (hts _ (uc_in _ q_f383)) (fun _ h9 => h9) rfl dX9_feed_61 ?_
    refine va_get (ci := 6) (v := .int (gi u16 1)) (C := RX6) (T := TX6) (N := 8) hx hb hts (fun w h => uc_in w (inX6 w h)) hown hK hH.1 1 (cwc1 C A u16) rfl 1 (by decide) (hts _ (uc_in _ q_f34)) (fun _ h9 => h9) rfl dX9_feed_64 ?_
    have b19 := hI.b1
    exact hret _ _ _ _ (gi u16 1) _ dX9_feed_67 rfl ⟨hI, (Un.tr (Un.tr (Un.tr (Un.tr (Un.tr Un.rf hUu4 rfl rfl rfl) hUu7 rfl rfl rfl) hUu10 rfl rfl rfl) hUu13 rfl rfl rfl) hUu16 rfl rfl rfl), ⟨by omega, by omega⟩⟩ hH
  · have c3 := cNLE (x := z2) (y := 800) (X := (((gi u 1)).toInt + 20)) (Y := 800) hz2 (by decide) c3
    refine lv_iconst (v := (-1)) hx hb dX9_feed_16 (by decide) ?_
    exact hret _ _ _ _ ((-1) : Int32) _ dX9_feed_17 rfl ⟨hI, Un.rf, ⟨by decide, by decide⟩⟩ hH
set_option maxHeartbeats 4000000 in
set_option maxRecDepth 100000 in
theorem kX5_fillLates_1 (l : Launch) (D : va_G) (C : Nat → ClassId) (A : Nat → Nat) (u : St) (hI : IC u) (a1 : Int32) (A1 : Int) (ha1 : a1.toInt = A1) (hl1 : 0 ≤ A1) (hm1 : A1 ≤ 5) (sz : Nat) : MetV l yX5_fillLates cX5_fillLates 13 2 [.ref (A 2), .int a1, .int 0, .ref (A 20), .int 0] D (tyl C) (cw C A) X0 u sz (fun u' => IC u' ∧ Un [] [(91, 139)] [] u u' ∧ True) := by
  refine mV (by decide) (Nat.le_of_ble_eq_true rfl) ?_
  intro p e s m below meth c ls ar Q hx hb hml hown hts hK hH hX hl hret
  have hown : s.vm.findClass RX5 = some m.cls := hown
  have hl : lv_has ls 13 [(0, .ref (A 2)), (1, .int a1), (2, .int 0), (3, .ref (A 20)), (4, .int 0)] := hl
  refine lv_iconst (v := 0) hx hb dX5_fillLates_0 (by decide) ?_
  refine lv_iload_n hx hb dX5_fillLates_1 rfl (lv_at hl 2 rfl) ?_
  refine va_mmax hx hb (by rw [hml]; exact hl.1.symm) hown (hts _ (uc_in _ q_m570)) (hts _ (uc_in _ q_s571)) (hts _ (uc_in _ q_i12)) (hts _ (uc_in _ q_c572)) (Nat.le_of_ble_eq_true rfl) (Nat.le_of_ble_eq_true rfl) (Nat.le_of_ble_eq_true rfl) (Nat.le_of_ble_eq_true rfl) dX5_fillLates_2 ?_
  refine p_bd (P := fun q => 0 ≤ q ∧ q ≤ 0) (by rcases tt_max (x := 0) (y := 0) with q9 | q9 <;> rw [q9.1] <;> refine ⟨?_, ?_⟩ <;> first | trivial | (have q7 := (show (0 : Int32).toInt = 0 from (by decide)); have q8 := (show (0 : Int32).toInt = 0 from (by decide)); omega)) (fun z1 bz1 => ?_)
  have bz1 : 0 ≤ z1.toInt ∧ z1.toInt ≤ 0 := bz1
  refine lv_istore (lv' := [(5, .int z1), (0, .ref (A 2)), (1, .int a1), (2, .int 0), (3, .ref (A 20)), (4, .int 0)]) hx hb dX5_fillLates_5 hl (by decide) rfl (fun ls hl => ?_)
  refine lv_iload_n hx hb dX5_fillLates_7 rfl (lv_at hl 3 rfl) ?_
  refine lv_iconst (v := (-1)) hx hb dX5_fillLates_8 (by decide) ?_
  refine lv_icmp_ne (tgt := 21) hx hb dX5_fillLates_9 (by decide) (fun c2 => ?_) (fun c2 => absurd c2 (by decide))
  refine lv_iconst (v := 0) hx hb dX5_fillLates_21 (by decide) ?_
  refine lv_istore (lv' := [(6, .int 0), (5, .int z1), (0, .ref (A 2)), (1, .int a1), (2, .int 0), (3, .ref (A 20)), (4, .int 0)]) hx hb dX5_fillLates_22 hl (by decide) rfl (fun ls hl => ?_)
  refine lv_aload_n hx hb dX5_fillLates_24 rfl (lv_at hl 2 rfl) ?_
  refine va_get (ci := 7) (v := .ref (A 54)) (C := RX7) (T := TX7) (N := 16) hx hb hts (fun w h => uc_in w (inX7 w h)) hown hK hH.1 2 (cwc2 C A u) rfl 10 (by decide) (hts _ (uc_in _ q_f104)) (fun _ h9 => h9) rfl dX5_fillLates_25 ?_
  refine lv_iload_n hx hb dX5_fillLates_28 rfl (lv_at hl 3 rfl) ?_
  refine va_iald hx hb hK hH.1 54 1 (cwc54 C A u) rfl (i_ix ha1 (by omega) (by omega)) dX5_fillLates_29 ?_
  refine p_any (fun z3 => ?_)
  refine lv_istore (lv' := [(7, .int z3), (6, .int 0), (5, .int z1), (0, .ref (A 2)), (1, .int a1), (2, .int 0), (3, .ref (A 20)), (4, .int 0)]) hx hb dX5_fillLates_30 hl (by decide) rfl (fun ls hl => ?_)
  refine lv_iconst (v := 0) hx hb dX5_fillLates_32 (by decide) ?_
  refine lv_istore (lv' := [(8, .int 0), (7, .int z3), (6, .int 0), (5, .int z1), (0, .ref (A 2)), (1, .int a1), (2, .int 0), (3, .ref (A 20)), (4, .int 0)]) hx hb dX5_fillLates_33 hl (by decide) rfl (fun ls hl => ?_)
  refine lv_iload hx hb dX5_fillLates_35 (lv_at hl 3 rfl) ?_
  refine lv_istore (lv' := [(9, .int z1), (8, .int 0), (7, .int z3), (6, .int 0), (5, .int z1), (0, .ref (A 2)), (1, .int a1), (2, .int 0), (3, .ref (A 20)), (4, .int 0)]) hx hb dX5_fillLates_37 hl (by decide) rfl (fun ls hl => ?_)
  have lp39_1351 : ∀ (n39 : Nat) (ls : Array Slot) (y1347d : Int32) (y1348d : Int32) (y1349d : Int32) (y1350d : Int32) (u1351 : St) (H : Heap) (locs : List Loc), 0 ≤ y1347d.toInt → y1347d.toInt ≤ 7 → 0 ≤ y1348d.toInt → y1348d.toInt ≤ 1 → 7 - y1347d.toInt < (n39 : Int) → Un [] [(91, 139)] [] u u1351 → IC u1351 → Hd D (cw C A) (va_A (cw C A u) s.heap.size) s.heap u1351 H locs → lv_has ls 13 [(9, .int y1347d), (8, .int y1348d), (7, .int y1349d), (6, .int y1350d), (5, .int z1), (0, .ref (A 2)), (1, .int a1), (2, .int 0), (3, .ref (A 20)), (4, .int 0)] → W p l e (rmL 2 0 0) s m ar below meth c H locs 0 0 Q (F0 m 39 ls []) := by
    intro n39
    induction n39 with
    | zero => intro ls y1347d y1348d y1349d y1350d u1351 H locs ly1347d my1347d ly1348d my1348d hmun39 hUu1351 hI hH hl; exfalso; omega
    | succ n39 ih39_1351 =>
      intro ls y1347d y1348d y1349d y1350d u1351 H locs ly1347d my1347d ly1348d my1348d hmun39 hUu1351 hI hH hl
      refine lv_iload hx hb dX5_fillLates_39 (lv_at hl 0 rfl) ?_
      refine lv_aload_n hx hb dX5_fillLates_41 rfl (lv_at hl 5 rfl) ?_
      refine va_get (ci := 7) (v := .int (gi u1351 9)) (C := RX7) (T := TX7) (N := 16) hx hb hts (fun w h => uc_in w (inX7 w h)) hown hK hH.1 2 (cwc2 C A u1351) rfl 1 (by decide) (hts _ (uc_in _ q_f71)) (fun _ h9 => h9) rfl dX5_fillLates_42 ?_
      have b1353 := hI.b9
      refine lv_icmp_ge (tgt := 180) hx hb dX5_fillLates_45 (by decide) (fun c1354 => ?_) (fun c1354 => ?_)
      · have c1354 := cLE (x := (gi u1351 9)) (y := y1347d) (X := ((gi u1351 9)).toInt) (Y := y1347d.toInt) rfl rfl c1354
        exact hret _ _ _ _ _ dX5_fillLates_180 ⟨hI, (Un.tr Un.rf hUu1351 rfl rfl rfl), trivial⟩ hH
      · have c1354 := cNLE (x := (gi u1351 9)) (y := y1347d) (X := ((gi u1351 9)).toInt) (Y := y1347d.toInt) rfl rfl c1354
        refine lv_iload hx hb dX5_fillLates_48 (lv_at hl 3 rfl) ?_
        refine lv_iload hx hb dX5_fillLates_50 (lv_at hl 0 rfl) ?_
        refine lv_iload hx hb dX5_fillLates_52 (lv_at hl 4 rfl) ?_
        have j63_1601 : ∀ (ls : Array Slot) (y1356d : Int32), lv_has ls 13 [(9, .int y1347d), (8, .int y1348d), (7, .int y1349d), (5, .int z1), (0, .ref (A 2)), (1, .int a1), (2, .int 0), (3, .ref (A 20)), (4, .int 0)] → W p l e (rmL 2 0 0) s m ar below meth c H locs 0 0 Q (F0 m 63 ls [.int y1356d, .int y1350d]) := by
          intro ls y1356d hl
          refine lv_iadd hx hb dX5_fillLates_63 ?_
          refine p_any (fun z1603 => ?_)
          refine lv_istore (lv' := [(6, .int z1603), (9, .int y1347d), (8, .int y1348d), (7, .int y1349d), (5, .int z1), (0, .ref (A 2)), (1, .int a1), (2, .int 0), (3, .ref (A 20)), (4, .int 0)]) hx hb dX5_fillLates_64 hl (by decide) rfl (fun ls hl => ?_)
          refine lv_iload hx hb dX5_fillLates_66 (lv_at hl 1 rfl) ?_
          refine lv_iload_n hx hb dX5_fillLates_68 rfl (lv_at hl 7 rfl) ?_
          have j80_1847 : ∀ (ls : Array Slot) (y1606d : Int32), 0 ≤ y1606d.toInt → y1606d.toInt ≤ 40 → lv_has ls 13 [(6, .int z1603), (9, .int y1347d), (8, .int y1348d), (7, .int y1349d), (5, .int z1), (0, .ref (A 2)), (1, .int a1), (2, .int 0), (3, .ref (A 20)), (4, .int 0)] → W p l e (rmL 2 0 0) s m ar below meth c H locs 0 0 Q (F0 m 80 ls [.int y1606d]) := by
            intro ls y1606d ly1606d my1606d hl
            refine lv_istore (lv' := [(10, .int y1606d), (6, .int z1603), (9, .int y1347d), (8, .int y1348d), (7, .int y1349d), (5, .int z1), (0, .ref (A 2)), (1, .int a1), (2, .int 0), (3, .ref (A 20)), (4, .int 0)]) hx hb dX5_fillLates_80 hl (by decide) rfl (fun ls hl => ?_)
            refine lv_iconst (v := 0) hx hb dX5_fillLates_82 (by decide) ?_
            refine lv_istore (lv' := [(11, .int 0), (10, .int y1606d), (6, .int z1603), (9, .int y1347d), (8, .int y1348d), (7, .int y1349d), (5, .int z1), (0, .ref (A 2)), (1, .int a1), (2, .int 0), (3, .ref (A 20)), (4, .int 0)]) hx hb dX5_fillLates_83 hl (by decide) rfl (fun ls hl => ?_)
            have lp85_2072 : ∀ (n85 : Nat) (ls : Array Slot) (y2068d : Int32) (y2069d : Int32) (y2070d : Int32) (y2071d : Int32) (u2072 : St) (H : Heap) (locs : List Loc), 0 ≤ y2068d.toInt → y2068d.toInt ≤ 40 → 0 ≤ y2070d.toInt → y2070d.toInt ≤ 1 → 40 - y2068d.toInt < (n85 : Int) → Un [] [(91, 139)] [] u1351 u2072 → IC u2072 → Hd D (cw C A) (va_A (cw C A u) s.heap.size) s.heap u2072 H locs → lv_has ls 13 [(11, .int y2068d), (10, .int y1606d), (6, .int y2069d), (9, .int y1347d), (8, .int y2070d), (7, .int y2071d), (5, .int z1), (0, .ref (A 2)), (1, .int a1), (2, .int 0), (3, .ref (A 20)), (4, .int 0)] → W p l e (rmL 2 0 0) s m ar below meth c H locs 0 0 Q (F0 m 85 ls []) := by
              intro n85
              induction n85 with
              | zero => intro ls y2068d y2069d y2070d y2071d u2072 H locs ly2068d my2068d ly2070d my2070d hmun85 hUu2072 hI hH hl; exfalso; omega
              | succ n85 ih85_2072 =>
                intro ls y2068d y2069d y2070d y2071d u2072 H locs ly2068d my2068d ly2070d my2070d hmun85 hUu2072 hI hH hl
                refine lv_iload hx hb dX5_fillLates_85 (lv_at hl 0 rfl) ?_
                refine lv_iload hx hb dX5_fillLates_87 (lv_at hl 1 rfl) ?_
                refine lv_icmp_ge (tgt := 152) hx hb dX5_fillLates_89 (by decide) (fun c2074 => ?_) (fun c2074 => ?_)
                · have c2074 := cLE (x := y1606d) (y := y2068d) (X := y1606d.toInt) (Y := y2068d.toInt) rfl rfl c2074
                  refine lv_aload_n hx hb dX5_fillLates_152 rfl (lv_at hl 10 rfl) ?_
                  refine lv_iload hx hb dX5_fillLates_153 (lv_at hl 11 rfl) ?_
                  refine lv_iload hx hb dX5_fillLates_155 (lv_at hl 3 rfl) ?_
                  refine lv_iadd hx hb dX5_fillLates_157 ?_
                  refine p_nm (tt_add (X := 0) (Y := y1347d.toInt) (by decide) rfl (by omega) (by omega)) (fun z2075 hz2075 => ?_)
                  refine r_aald hx hb hK hH.1 20 6 rfl (cwc20 C A u2072) rfl (i_ix hz2075 (by omega) (by omega)) dX5_fillLates_158 ?_
                  obtain ⟨k2076, hk2076, ek2076⟩ : ∃ k : Nat, (k : Int) = 39 + (0 + y1347d.toInt) ∧ k = 39 + Int32.toNatClampNeg z2075 := ⟨_, by have q9 := i_cl (x := z2075) (X := (0 + y1347d.toInt)) hz2075 (by omega); omega, rfl⟩
                  refine pv_v (v := .ref (A (52 + k2076))) (by rw [ek2076]; rfl) ?_
                  refine lv_iload_n hx hb dX5_fillLates_159 rfl (lv_at hl 8 rfl) ?_
                  refine lv_iload hx hb dX5_fillLates_160 (lv_at hl 4 rfl) ?_
                  have j173_2081 : ∀ (ls : Array Slot) (y2078d : Int32), lv_has ls 13 [(6, .int y2069d), (9, .int y1347d), (8, .int y2070d), (7, .int y2071d), (5, .int z1), (0, .ref (A 2)), (1, .int a1), (2, .int 0), (3, .ref (A 20)), (4, .int 0)] → W p l e (rmL 2 0 0) s m ar below meth c H locs 0 0 Q (F0 m 173 ls [.int y2078d, .int a1, .ref (A (52 + k2076))]) := by
                    intro ls y2078d hl
                    refine r_iast (j := (52 + k2076)) hx hb hK hH (52 + k2076) 1 (cwp C A u2072 k2076 (by omega)) rfl (i_ix ha1 (by omega) (by omega)) (cwq C A u2072 k2076 (by omega)) dX5_fillLates_173 (fun u2083 eu2083 H locs hH => ?_)
                    have hI := hI.pa0 eu2083 (by omega)
                    obtain ⟨z2084, ez2084⟩ : ∃ z, z = y1347d + Int32.ofInt 1 := ⟨_, rfl⟩
                    have hz2084 : z2084.toInt = y1347d.toInt + 1 := by rw [ez2084]; exact tt_add rfl (by decide) (by omega) (by omega)
                    refine lv_iinc (v := z2084) (lv' := [(9, .int z2084), (6, .int y2069d), (8, .int y2070d), (7, .int y2071d), (5, .int z1), (0, .ref (A 2)), (1, .int a1), (2, .int 0), (3, .ref (A 20)), (4, .int 0)]) hx hb dX5_fillLates_174 hl (k := 1) rfl ez2084.symm (by decide) rfl (fun ls hl => ?_)
                    refine lv_goto (tgt := 39) hx hb dX5_fillLates_177 (by decide) ?_
                    exact ih39_1351 ls z2084 y2070d y2071d y2069d u2083 _ _ (by have q9 := (show z2084.toInt = (y1347d.toInt + 1) from hz2084); omega) (by have q9 := (show z2084.toInt = (y1347d.toInt + 1) from hz2084); omega) (by omega) (by omega) (by have q9 := (show z2084.toInt = (y1347d.toInt + 1) from hz2084); omega) (Un.sa (Un.tr hUu1351 hUu2072 rfl rfl rfl) (out_mem (lo := 91) (hi := 139) (by decide) (by omega) (by omega)) eu2083) hI hH (lv_sub hl [0, 2, 3, 1, 4, 5, 6, 7, 8, 9] rfl)
                  refine lv_if_eq (tgt := 171) hx hb dX5_fillLates_162 (by decide) (fun c2077 => ?_) (fun c2077 => ?_)
                  · have c2077 := cEQ (x := y2070d) (y := 0) (X := y2070d.toInt) (Y := 0) rfl (by decide) c2077
                    refine lv_iload hx hb dX5_fillLates_171 (lv_at hl 2 rfl) ?_
                    exact j173_2081 ls y2069d (lv_sub hl [2, 3, 4, 5, 6, 7, 8, 9, 10, 11] rfl)
                  · have c2077 := cNE (x := y2070d) (y := 0) (X := y2070d.toInt) (Y := 0) rfl (by decide) c2077
                    refine lv_sipush (v := 10000) hx hb dX5_fillLates_165 (by decide) ?_
                    refine lv_goto (tgt := 173) hx hb dX5_fillLates_168 (by decide) ?_
                    exact j173_2081 ls 10000 (lv_sub hl [2, 3, 4, 5, 6, 7, 8, 9, 10, 11] rfl)
                · have c2074 := cNLE (x := y1606d) (y := y2068d) (X := y1606d.toInt) (Y := y2068d.toInt) rfl rfl c2074
                  refine lv_aload_n hx hb dX5_fillLates_92 rfl (lv_at hl 7 rfl) ?_
                  refine lv_iload hx hb dX5_fillLates_93 (lv_at hl 0 rfl) ?_
                  refine lv_iload_n hx hb dX5_fillLates_95 rfl (lv_at hl 8 rfl) ?_
                  refine lv_iload hx hb dX5_fillLates_96 (lv_at hl 3 rfl) ?_
                  refine cvS (n := 3) (As := [.int y2068d, .int a1, .int y1347d]) (rest := []) ⟨hx, hb, hml, hown, hts⟩ uc_in (kX7_kindIf_0 l D C A u2072 hI y2068d y2068d.toInt rfl a1 A1 ha1 y1347d y1347d.toInt rfl (by omega) (by omega)) q_m573 q_n574 q_e575 q_i3 q_c576 hvX7_kindIf ⟨(Nat.le_of_ble_eq_true rfl), (Nat.le_of_ble_eq_true rfl)⟩ ⟨(Nat.le_of_ble_eq_true rfl), (Nat.le_of_ble_eq_true rfl)⟩ hK hH.1 7 2 rfl (cwc2 C A u2072) rfl hl.1 rfl (Nat.le_of_ble_eq_true rfl) dX5_fillLates_98 (fun r2085 p2086 => ?_)
                  refine lv_istore (lv' := [(12, .int r2085), (11, .int y2068d), (10, .int y1606d), (6, .int y2069d), (9, .int y1347d), (8, .int y2070d), (7, .int y2071d), (5, .int z1), (0, .ref (A 2)), (1, .int a1), (2, .int 0), (3, .ref (A 20)), (4, .int 0)]) hx hb dX5_fillLates_101 hl (by decide) rfl (fun ls hl => ?_)
                  refine lv_iload hx hb dX5_fillLates_103 (lv_at hl 0 rfl) ?_
                  have j146_2095 : ∀ (ls : Array Slot) (y2091d : Int32) (y2092d : Int32) (y2093d : Int32), 0 ≤ y2092d.toInt → y2092d.toInt ≤ 1 → lv_has ls 13 [(11, .int y2068d), (10, .int y1606d), (6, .int y2091d), (9, .int y1347d), (8, .int y2092d), (7, .int y2093d), (5, .int z1), (0, .ref (A 2)), (1, .int a1), (2, .int 0), (3, .ref (A 20)), (4, .int 0)] → W p l e (rmL 2 0 0) s m ar below meth c H locs 0 0 Q (F0 m 146 ls []) := by
                    intro ls y2091d y2092d y2093d ly2092d my2092d hl
                    obtain ⟨z2097, ez2097⟩ : ∃ z, z = y2068d + Int32.ofInt 1 := ⟨_, rfl⟩
                    have hz2097 : z2097.toInt = y2068d.toInt + 1 := by rw [ez2097]; exact tt_add rfl (by decide) (by omega) (by omega)
                    refine lv_iinc (v := z2097) (lv' := [(11, .int z2097), (10, .int y1606d), (6, .int y2091d), (9, .int y1347d), (8, .int y2092d), (7, .int y2093d), (5, .int z1), (0, .ref (A 2)), (1, .int a1), (2, .int 0), (3, .ref (A 20)), (4, .int 0)]) hx hb dX5_fillLates_146 hl (k := 0) rfl ez2097.symm (by decide) rfl (fun ls hl => ?_)
                    refine lv_goto (tgt := 85) hx hb dX5_fillLates_149 (by decide) ?_
                    exact ih85_2072 ls z2097 y2091d y2092d y2093d u2072 _ _ (by have q9 := (show z2097.toInt = (y2068d.toInt + 1) from hz2097); omega) (by have q9 := (show z2097.toInt = (y2068d.toInt + 1) from hz2097); omega) (by omega) (by omega) (by have q9 := (show z2097.toInt = (y2068d.toInt + 1) from hz2097); omega) hUu2072 hI hH hl
                  refine lv_if_ne (tgt := 125) hx hb dX5_fillLates_105 (by decide) (fun c2087 => ?_) (fun c2087 => ?_)
                  · refine lv_iload hx hb dX5_fillLates_125 (lv_at hl 0 rfl) ?_
                    refine lv_iconst (v := 1) hx hb dX5_fillLates_127 (by decide) ?_
                    refine lv_icmp_ne (tgt := 137) hx hb dX5_fillLates_128 (by decide) (fun c2098 => ?_) (fun c2098 => ?_)
                    · refine lv_iload hx hb dX5_fillLates_137 (lv_at hl 0 rfl) ?_
                      refine lv_iconst (v := 2) hx hb dX5_fillLates_139 (by decide) ?_
                      refine lv_icmp_ne (tgt := 146) hx hb dX5_fillLates_140 (by decide) (fun c2099 => ?_) (fun c2099 => ?_)
                      · exact j146_2095 ls y2069d y2070d y2071d (by omega) (by omega) (lv_sub hl [1, 2, 3, 4, 5, 6, 7, 8, 9, 10, 11, 12] rfl)
                      · have c2099 := cEQ (x := r2085) (y := 2) (X := r2085.toInt) (Y := 2) rfl (by decide) c2099
                        refine lv_iconst (v := 1) hx hb dX5_fillLates_143 (by decide) ?_
                        refine lv_istore (lv' := [(8, .int 1), (12, .int r2085), (11, .int y2068d), (10, .int y1606d), (6, .int y2069d), (9, .int y1347d), (7, .int y2071d), (5, .int z1), (0, .ref (A 2)), (1, .int a1), (2, .int 0), (3, .ref (A 20)), (4, .int 0)]) hx hb dX5_fillLates_144 hl (by decide) rfl (fun ls hl => ?_)
                        exact j146_2095 ls y2069d 1 y2071d (by decide) (by decide) (lv_sub hl [2, 3, 4, 5, 0, 6, 7, 8, 9, 10, 11, 12] rfl)
                    · have c2098 := cEQ (x := r2085) (y := 1) (X := r2085.toInt) (Y := 1) rfl (by decide) c2098
                      refine lv_iconst (v := 0) hx hb dX5_fillLates_131 (by decide) ?_
                      refine lv_istore (lv' := [(7, .int 0), (12, .int r2085), (11, .int y2068d), (10, .int y1606d), (6, .int y2069d), (9, .int y1347d), (8, .int y2070d), (5, .int z1), (0, .ref (A 2)), (1, .int a1), (2, .int 0), (3, .ref (A 20)), (4, .int 0)]) hx hb dX5_fillLates_132 hl (by decide) rfl (fun ls hl => ?_)
                      refine lv_goto (tgt := 146) hx hb dX5_fillLates_134 (by decide) ?_
                      exact j146_2095 ls y2069d y2070d 0 (by omega) (by omega) (lv_sub hl [2, 3, 4, 5, 6, 0, 7, 8, 9, 10, 11, 12] rfl)
                  · have c2087 := cEQ (x := r2085) (y := 0) (X := r2085.toInt) (Y := 0) rfl (by decide) c2087
                    refine lv_iconst (v := 0) hx hb dX5_fillLates_108 (by decide) ?_
                    refine lv_istore (lv' := [(6, .int 0), (12, .int r2085), (11, .int y2068d), (10, .int y1606d), (9, .int y1347d), (8, .int y2070d), (7, .int y2071d), (5, .int z1), (0, .ref (A 2)), (1, .int a1), (2, .int 0), (3, .ref (A 20)), (4, .int 0)]) hx hb dX5_fillLates_109 hl (by decide) rfl (fun ls hl => ?_)
                    refine lv_aload_n hx hb dX5_fillLates_111 rfl (lv_at hl 8 rfl) ?_
                    refine va_get (ci := 7) (v := .ref (A 54)) (C := RX7) (T := TX7) (N := 16) hx hb hts (fun w h => uc_in w (inX7 w h)) hown hK hH.1 2 (cwc2 C A u2072) rfl 10 (by decide) (hts _ (uc_in _ q_f104)) (fun _ h9 => h9) rfl dX5_fillLates_112 ?_
                    refine lv_iload_n hx hb dX5_fillLates_115 rfl (lv_at hl 9 rfl) ?_
                    refine va_iald hx hb hK hH.1 54 1 (cwc54 C A u2072) rfl (i_ix ha1 (by omega) (by omega)) dX5_fillLates_116 ?_
                    refine p_any (fun z2100 => ?_)
                    refine lv_istore (lv' := [(7, .int z2100), (6, .int 0), (12, .int r2085), (11, .int y2068d), (10, .int y1606d), (9, .int y1347d), (8, .int y2070d), (5, .int z1), (0, .ref (A 2)), (1, .int a1), (2, .int 0), (3, .ref (A 20)), (4, .int 0)]) hx hb dX5_fillLates_117 hl (by decide) rfl (fun ls hl => ?_)
                    refine lv_iconst (v := 0) hx hb dX5_fillLates_119 (by decide) ?_
                    refine lv_istore (lv' := [(8, .int 0), (7, .int z2100), (6, .int 0), (12, .int r2085), (11, .int y2068d), (10, .int y1606d), (9, .int y1347d), (5, .int z1), (0, .ref (A 2)), (1, .int a1), (2, .int 0), (3, .ref (A 20)), (4, .int 0)]) hx hb dX5_fillLates_120 hl (by decide) rfl (fun ls hl => ?_)
                    refine lv_goto (tgt := 146) hx hb dX5_fillLates_122 (by decide) ?_
                    exact j146_2095 ls 0 0 z2100 (by decide) (by decide) (lv_sub hl [4, 5, 2, 6, 0, 1, 7, 8, 9, 10, 11, 12] rfl)
            exact lp85_2072 41 ls 0 z1603 y1348d y1349d u1351 _ _ (by decide) (by decide) (by omega) (by omega) (by have q9 : (0 : Int32).toInt = 0 := (by decide); omega) Un.rf hI hH hl
          refine lv_icmp_ne (tgt := 76) hx hb dX5_fillLates_69 (by decide) (fun c1604 => ?_) (fun c1604 => ?_)
          · have c1604 := cNE (x := y1347d) (y := 0) (X := y1347d.toInt) (Y := 0) rfl (by decide) c1604
            refine lv_aload_n hx hb dX5_fillLates_76 rfl (lv_at hl 5 rfl) ?_
            refine va_get (ci := 7) (v := .int (gi u1351 15)) (C := RX7) (T := TX7) (N := 16) hx hb hts (fun w h => uc_in w (inX7 w h)) hown hK hH.1 2 (cwc2 C A u1351) rfl 7 (by decide) (hts _ (uc_in _ q_f93)) (fun _ h9 => h9) rfl dX5_fillLates_77 ?_
            have b2101 := hI.b15
            exact j80_1847 ls (gi u1351 15) (by omega) (by omega) hl
          · have c1604 := cEQ (x := y1347d) (y := 0) (X := y1347d.toInt) (Y := 0) rfl (by decide) c1604
            refine lv_iconst (v := 0) hx hb dX5_fillLates_72 (by decide) ?_
            refine lv_goto (tgt := 80) hx hb dX5_fillLates_73 (by decide) ?_
            exact j80_1847 ls 0 (by decide) (by decide) hl
        refine lv_icmp_le (tgt := 62) hx hb dX5_fillLates_54 (by decide) (fun c1355 => ?_) (fun c1355 => ?_)
        · have c1355 := cLE (x := y1347d) (y := z1) (X := y1347d.toInt) (Y := z1.toInt) rfl rfl c1355
          refine lv_iconst (v := 0) hx hb dX5_fillLates_62 (by decide) ?_
          exact j63_1601 ls 0 (lv_sub hl [0, 1, 2, 4, 5, 6, 7, 8, 9] rfl)
        · have c1355 := cNLE (x := y1347d) (y := z1) (X := y1347d.toInt) (Y := z1.toInt) rfl rfl c1355
          refine lv_iload hx hb dX5_fillLates_57 (lv_at hl 2 rfl) ?_
          refine lv_goto (tgt := 63) hx hb dX5_fillLates_59 (by decide) ?_
          exact j63_1601 ls y1349d (lv_sub hl [0, 1, 2, 4, 5, 6, 7, 8, 9] rfl)
  exact lp39_1351 8 ls z1 0 z3 0 u _ _ (by omega) (by omega) (by decide) (by decide) (by omega) Un.rf hI hH hl
set_option maxHeartbeats 4000000 in
set_option maxRecDepth 100000 in
theorem kX5_fillLates_2 (l : Launch) (D : va_G) (C : Nat → ClassId) (A : Nat → Nat) (u : St) (hI : IC u) (a1 : Int32) (A1 : Int) (ha1 : a1.toInt = A1) (a2 : Int32) (A2 : Int) (ha2 : a2.toInt = A2) (a4 : Int32) (A4 : Int) (ha4 : a4.toInt = A4) (hl1 : 0 ≤ A1) (hm1 : A1 ≤ 5) (hl2 : (-1) ≤ A2) (hm2 : A2 ≤ 6) (hl4 : 0 ≤ A4) (hm4 : A4 ≤ 42) (sz : Nat) : MetV l yX5_fillLates cX5_fillLates 13 2 [.ref (A 2), .int a1, .int a2, .ref (A 20), .int a4] D (tyl C) (cw C A) X0 u sz (fun u' => IC u' ∧ Un [] [(91, 139)] [] u u' ∧ True) := by
  refine mV (by decide) (Nat.le_of_ble_eq_true rfl) ?_
  intro p e s m below meth c ls ar Q hx hb hml hown hts hK hH hX hl hret
  have hown : s.vm.findClass RX5 = some m.cls := hown
  have hl : lv_has ls 13 [(0, .ref (A 2)), (1, .int a1), (2, .int a2), (3, .ref (A 20)), (4, .int a4)] := hl
  refine lv_iconst (v := 0) hx hb dX5_fillLates_0 (by decide) ?_
  refine lv_iload_n hx hb dX5_fillLates_1 rfl (lv_at hl 2 rfl) ?_
  refine va_mmax hx hb (by rw [hml]; exact hl.1.symm) hown (hts _ (uc_in _ q_m570)) (hts _ (uc_in _ q_s571)) (hts _ (uc_in _ q_i12)) (hts _ (uc_in _ q_c572)) (Nat.le_of_ble_eq_true rfl) (Nat.le_of_ble_eq_true rfl) (Nat.le_of_ble_eq_true rfl) (Nat.le_of_ble_eq_true rfl) dX5_fillLates_2 ?_
  refine p_bd (P := fun q => 0 ≤ q ∧ q ≤ 6) (by rcases tt_max (x := 0) (y := a2) with q9 | q9 <;> rw [q9.1] <;> refine ⟨?_, ?_⟩ <;> first | trivial | (have q7 := (show (0 : Int32).toInt = 0 from (by decide)); have q8 := (show a2.toInt = A2 from ha2); omega)) (fun z1 bz1 => ?_)
  have bz1 : 0 ≤ z1.toInt ∧ z1.toInt ≤ 6 := bz1
  refine lv_istore (lv' := [(5, .int z1), (0, .ref (A 2)), (1, .int a1), (2, .int a2), (3, .ref (A 20)), (4, .int a4)]) hx hb dX5_fillLates_5 hl (by decide) rfl (fun ls hl => ?_)
  refine lv_iload_n hx hb dX5_fillLates_7 rfl (lv_at hl 3 rfl) ?_
  refine lv_iconst (v := (-1)) hx hb dX5_fillLates_8 (by decide) ?_
  have j22_1012 : ∀ (ls : Array Slot) (y4d : Int32), lv_has ls 13 [(5, .int z1), (0, .ref (A 2)), (1, .int a1), (2, .int a2), (3, .ref (A 20)), (4, .int a4)] → W p l e (rmL 2 0 0) s m ar below meth c s.heap [] 0 0 Q (F0 m 22 ls [.int y4d]) := by
    intro ls y4d hl
    refine lv_istore (lv' := [(6, .int y4d), (5, .int z1), (0, .ref (A 2)), (1, .int a1), (2, .int a2), (3, .ref (A 20)), (4, .int a4)]) hx hb dX5_fillLates_22 hl (by decide) rfl (fun ls hl => ?_)
    refine lv_aload_n hx hb dX5_fillLates_24 rfl (lv_at hl 2 rfl) ?_
    refine va_get (ci := 7) (v := .ref (A 54)) (C := RX7) (T := TX7) (N := 16) hx hb hts (fun w h => uc_in w (inX7 w h)) hown hK hH.1 2 (cwc2 C A u) rfl 10 (by decide) (hts _ (uc_in _ q_f104)) (fun _ h9 => h9) rfl dX5_fillLates_25 ?_
    refine lv_iload_n hx hb dX5_fillLates_28 rfl (lv_at hl 3 rfl) ?_
    refine va_iald hx hb hK hH.1 54 1 (cwc54 C A u) rfl (i_ix ha1 (by omega) (by omega)) dX5_fillLates_29 ?_
    refine p_any (fun z1014 => ?_)
    refine lv_istore (lv' := [(7, .int z1014), (6, .int y4d), (5, .int z1), (0, .ref (A 2)), (1, .int a1), (2, .int a2), (3, .ref (A 20)), (4, .int a4)]) hx hb dX5_fillLates_30 hl (by decide) rfl (fun ls hl => ?_)
    refine lv_iconst (v := 0) hx hb dX5_fillLates_32 (by decide) ?_
    refine lv_istore (lv' := [(8, .int 0), (7, .int z1014), (6, .int y4d), (5, .int z1), (0, .ref (A 2)), (1, .int a1), (2, .int a2), (3, .ref (A 20)), (4, .int a4)]) hx hb dX5_fillLates_33 hl (by decide) rfl (fun ls hl => ?_)
    refine lv_iload hx hb dX5_fillLates_35 (lv_at hl 3 rfl) ?_
    refine lv_istore (lv' := [(9, .int z1), (8, .int 0), (7, .int z1014), (6, .int y4d), (5, .int z1), (0, .ref (A 2)), (1, .int a1), (2, .int a2), (3, .ref (A 20)), (4, .int a4)]) hx hb dX5_fillLates_37 hl (by decide) rfl (fun ls hl => ?_)
    have lp39_1773 : ∀ (n39 : Nat) (ls : Array Slot) (y1769d : Int32) (y1770d : Int32) (y1771d : Int32) (y1772d : Int32) (u1773 : St) (H : Heap) (locs : List Loc), 0 ≤ y1769d.toInt → y1769d.toInt ≤ 7 → 0 ≤ y1770d.toInt → y1770d.toInt ≤ 1 → 7 - y1769d.toInt < (n39 : Int) → Un [] [(91, 139)] [] u u1773 → IC u1773 → Hd D (cw C A) (va_A (cw C A u) s.heap.size) s.heap u1773 H locs → lv_has ls 13 [(9, .int y1769d), (8, .int y1770d), (7, .int y1771d), (6, .int y1772d), (5, .int z1), (0, .ref (A 2)), (1, .int a1), (2, .int a2), (3, .ref (A 20)), (4, .int a4)] → W p l e (rmL 2 0 0) s m ar below meth c H locs 0 0 Q (F0 m 39 ls []) := by
      intro n39
      induction n39 with
      | zero => intro ls y1769d y1770d y1771d y1772d u1773 H locs ly1769d my1769d ly1770d my1770d hmun39 hUu1773 hI hH hl; exfalso; omega
      | succ n39 ih39_1773 =>
        intro ls y1769d y1770d y1771d y1772d u1773 H locs ly1769d my1769d ly1770d my1770d hmun39 hUu1773 hI hH hl
        refine lv_iload hx hb dX5_fillLates_39 (lv_at hl 0 rfl) ?_
        refine lv_aload_n hx hb dX5_fillLates_41 rfl (lv_at hl 5 rfl) ?_
        refine va_get (ci := 7) (v := .int (gi u1773 9)) (C := RX7) (T := TX7) (N := 16) hx hb hts (fun w h => uc_in w (inX7 w h)) hown hK hH.1 2 (cwc2 C A u1773) rfl 1 (by decide) (hts _ (uc_in _ q_f71)) (fun _ h9 => h9) rfl dX5_fillLates_42 ?_
        have b1775 := hI.b9
        refine lv_icmp_ge (tgt := 180) hx hb dX5_fillLates_45 (by decide) (fun c1776 => ?_) (fun c1776 => ?_)
        · have c1776 := cLE (x := (gi u1773 9)) (y := y1769d) (X := ((gi u1773 9)).toInt) (Y := y1769d.toInt) rfl rfl c1776
          exact hret _ _ _ _ _ dX5_fillLates_180 ⟨hI, (Un.tr Un.rf hUu1773 rfl rfl rfl), trivial⟩ hH
        · have c1776 := cNLE (x := (gi u1773 9)) (y := y1769d) (X := ((gi u1773 9)).toInt) (Y := y1769d.toInt) rfl rfl c1776
          refine lv_iload hx hb dX5_fillLates_48 (lv_at hl 3 rfl) ?_
          refine lv_iload hx hb dX5_fillLates_50 (lv_at hl 0 rfl) ?_
          refine lv_iload hx hb dX5_fillLates_52 (lv_at hl 4 rfl) ?_
          have j63_2023 : ∀ (ls : Array Slot) (y1778d : Int32), lv_has ls 13 [(9, .int y1769d), (8, .int y1770d), (7, .int y1771d), (5, .int z1), (0, .ref (A 2)), (1, .int a1), (2, .int a2), (3, .ref (A 20)), (4, .int a4)] → W p l e (rmL 2 0 0) s m ar below meth c H locs 0 0 Q (F0 m 63 ls [.int y1778d, .int y1772d]) := by
            intro ls y1778d hl
            refine lv_iadd hx hb dX5_fillLates_63 ?_
            refine p_any (fun z2025 => ?_)
            refine lv_istore (lv' := [(6, .int z2025), (9, .int y1769d), (8, .int y1770d), (7, .int y1771d), (5, .int z1), (0, .ref (A 2)), (1, .int a1), (2, .int a2), (3, .ref (A 20)), (4, .int a4)]) hx hb dX5_fillLates_64 hl (by decide) rfl (fun ls hl => ?_)
            refine lv_iload hx hb dX5_fillLates_66 (lv_at hl 1 rfl) ?_
            refine lv_iload_n hx hb dX5_fillLates_68 rfl (lv_at hl 7 rfl) ?_
            have j80_2269 : ∀ (ls : Array Slot) (y2028d : Int32), 0 ≤ y2028d.toInt → y2028d.toInt ≤ 40 → lv_has ls 13 [(6, .int z2025), (9, .int y1769d), (8, .int y1770d), (7, .int y1771d), (5, .int z1), (0, .ref (A 2)), (1, .int a1), (2, .int a2), (3, .ref (A 20)), (4, .int a4)] → W p l e (rmL 2 0 0) s m ar below meth c H locs 0 0 Q (F0 m 80 ls [.int y2028d]) := by
              intro ls y2028d ly2028d my2028d hl
              refine lv_istore (lv' := [(10, .int y2028d), (6, .int z2025), (9, .int y1769d), (8, .int y1770d), (7, .int y1771d), (5, .int z1), (0, .ref (A 2)), (1, .int a1), (2, .int a2), (3, .ref (A 20)), (4, .int a4)]) hx hb dX5_fillLates_80 hl (by decide) rfl (fun ls hl => ?_)
              refine lv_iconst (v := 0) hx hb dX5_fillLates_82 (by decide) ?_
              refine lv_istore (lv' := [(11, .int 0), (10, .int y2028d), (6, .int z2025), (9, .int y1769d), (8, .int y1770d), (7, .int y1771d), (5, .int z1), (0, .ref (A 2)), (1, .int a1), (2, .int a2), (3, .ref (A 20)), (4, .int a4)]) hx hb dX5_fillLates_83 hl (by decide) rfl (fun ls hl => ?_)
              have lp85_2494 : ∀ (n85 : Nat) (ls : Array Slot) (y2490d : Int32) (y2491d : Int32) (y2492d : Int32) (y2493d : Int32) (u2494 : St) (H : Heap) (locs : List Loc), 0 ≤ y2490d.toInt → y2490d.toInt ≤ 40 → 0 ≤ y2492d.toInt → y2492d.toInt ≤ 1 → 40 - y2490d.toInt < (n85 : Int) → Un [] [(91, 139)] [] u1773 u2494 → IC u2494 → Hd D (cw C A) (va_A (cw C A u) s.heap.size) s.heap u2494 H locs → lv_has ls 13 [(11, .int y2490d), (10, .int y2028d), (6, .int y2491d), (9, .int y1769d), (8, .int y2492d), (7, .int y2493d), (5, .int z1), (0, .ref (A 2)), (1, .int a1), (2, .int a2), (3, .ref (A 20)), (4, .int a4)] → W p l e (rmL 2 0 0) s m ar below meth c H locs 0 0 Q (F0 m 85 ls []) := by
                intro n85
                induction n85 with
                | zero => intro ls y2490d y2491d y2492d y2493d u2494 H locs ly2490d my2490d ly2492d my2492d hmun85 hUu2494 hI hH hl; exfalso; omega
                | succ n85 ih85_2494 =>
                  intro ls y2490d y2491d y2492d y2493d u2494 H locs ly2490d my2490d ly2492d my2492d hmun85 hUu2494 hI hH hl
                  refine lv_iload hx hb dX5_fillLates_85 (lv_at hl 0 rfl) ?_
                  refine lv_iload hx hb dX5_fillLates_87 (lv_at hl 1 rfl) ?_
                  refine lv_icmp_ge (tgt := 152) hx hb dX5_fillLates_89 (by decide) (fun c2496 => ?_) (fun c2496 => ?_)
                  · have c2496 := cLE (x := y2028d) (y := y2490d) (X := y2028d.toInt) (Y := y2490d.toInt) rfl rfl c2496
                    refine lv_aload_n hx hb dX5_fillLates_152 rfl (lv_at hl 10 rfl) ?_
                    refine lv_iload hx hb dX5_fillLates_153 (lv_at hl 11 rfl) ?_
                    refine lv_iload hx hb dX5_fillLates_155 (lv_at hl 3 rfl) ?_
                    refine lv_iadd hx hb dX5_fillLates_157 ?_
                    refine p_nm (tt_add (X := A4) (Y := y1769d.toInt) ha4 rfl (by omega) (by omega)) (fun z2497 hz2497 => ?_)
                    refine r_aald hx hb hK hH.1 20 6 rfl (cwc20 C A u2494) rfl (i_ix hz2497 (by omega) (by omega)) dX5_fillLates_158 ?_
                    obtain ⟨k2498, hk2498, ek2498⟩ : ∃ k : Nat, (k : Int) = 39 + (A4 + y1769d.toInt) ∧ k = 39 + Int32.toNatClampNeg z2497 := ⟨_, by have q9 := i_cl (x := z2497) (X := (A4 + y1769d.toInt)) hz2497 (by omega); omega, rfl⟩
                    refine pv_v (v := .ref (A (52 + k2498))) (by rw [ek2498]; rfl) ?_
                    refine lv_iload_n hx hb dX5_fillLates_159 rfl (lv_at hl 8 rfl) ?_
                    refine lv_iload hx hb dX5_fillLates_160 (lv_at hl 4 rfl) ?_
                    have j173_2503 : ∀ (ls : Array Slot) (y2500d : Int32), lv_has ls 13 [(6, .int y2491d), (9, .int y1769d), (8, .int y2492d), (7, .int y2493d), (5, .int z1), (0, .ref (A 2)), (1, .int a1), (2, .int a2), (3, .ref (A 20)), (4, .int a4)] → W p l e (rmL 2 0 0) s m ar below meth c H locs 0 0 Q (F0 m 173 ls [.int y2500d, .int a1, .ref (A (52 + k2498))]) := by
                      intro ls y2500d hl
                      refine r_iast (j := (52 + k2498)) hx hb hK hH (52 + k2498) 1 (cwp C A u2494 k2498 (by omega)) rfl (i_ix ha1 (by omega) (by omega)) (cwq C A u2494 k2498 (by omega)) dX5_fillLates_173 (fun u2505 eu2505 H locs hH => ?_)
                      have hI := hI.pa0 eu2505 (by omega)
                      obtain ⟨z2506, ez2506⟩ : ∃ z, z = y1769d + Int32.ofInt 1 := ⟨_, rfl⟩
                      have hz2506 : z2506.toInt = y1769d.toInt + 1 := by rw [ez2506]; exact tt_add rfl (by decide) (by omega) (by omega)
                      refine lv_iinc (v := z2506) (lv' := [(9, .int z2506), (6, .int y2491d), (8, .int y2492d), (7, .int y2493d), (5, .int z1), (0, .ref (A 2)), (1, .int a1), (2, .int a2), (3, .ref (A 20)), (4, .int a4)]) hx hb dX5_fillLates_174 hl (k := 1) rfl ez2506.symm (by decide) rfl (fun ls hl => ?_)
                      refine lv_goto (tgt := 39) hx hb dX5_fillLates_177 (by decide) ?_
                      exact ih39_1773 ls z2506 y2492d y2493d y2491d u2505 _ _ (by have q9 := (show z2506.toInt = (y1769d.toInt + 1) from hz2506); omega) (by have q9 := (show z2506.toInt = (y1769d.toInt + 1) from hz2506); omega) (by omega) (by omega) (by have q9 := (show z2506.toInt = (y1769d.toInt + 1) from hz2506); omega) (Un.sa (Un.tr hUu1773 hUu2494 rfl rfl rfl) (out_mem (lo := 91) (hi := 139) (by decide) (by omega) (by omega)) eu2505) hI hH (lv_sub hl [0, 2, 3, 1, 4, 5, 6, 7, 8, 9] rfl)
                    refine lv_if_eq (tgt := 171) hx hb dX5_fillLates_162 (by decide) (fun c2499 => ?_) (fun c2499 => ?_)
                    · have c2499 := cEQ (x := y2492d) (y := 0) (X := y2492d.toInt) (Y := 0) rfl (by decide) c2499
                      refine lv_iload hx hb dX5_fillLates_171 (lv_at hl 2 rfl) ?_
                      exact j173_2503 ls y2491d (lv_sub hl [2, 3, 4, 5, 6, 7, 8, 9, 10, 11] rfl)
                    · have c2499 := cNE (x := y2492d) (y := 0) (X := y2492d.toInt) (Y := 0) rfl (by decide) c2499
                      refine lv_sipush (v := 10000) hx hb dX5_fillLates_165 (by decide) ?_
                      refine lv_goto (tgt := 173) hx hb dX5_fillLates_168 (by decide) ?_
                      exact j173_2503 ls 10000 (lv_sub hl [2, 3, 4, 5, 6, 7, 8, 9, 10, 11] rfl)
                  · have c2496 := cNLE (x := y2028d) (y := y2490d) (X := y2028d.toInt) (Y := y2490d.toInt) rfl rfl c2496
                    refine lv_aload_n hx hb dX5_fillLates_92 rfl (lv_at hl 7 rfl) ?_
                    refine lv_iload hx hb dX5_fillLates_93 (lv_at hl 0 rfl) ?_
                    refine lv_iload_n hx hb dX5_fillLates_95 rfl (lv_at hl 8 rfl) ?_
                    refine lv_iload hx hb dX5_fillLates_96 (lv_at hl 3 rfl) ?_
                    refine cvS (n := 3) (As := [.int y2490d, .int a1, .int y1769d]) (rest := []) ⟨hx, hb, hml, hown, hts⟩ uc_in (kX7_kindIf_0 l D C A u2494 hI y2490d y2490d.toInt rfl a1 A1 ha1 y1769d y1769d.toInt rfl (by omega) (by omega)) q_m573 q_n574 q_e575 q_i3 q_c576 hvX7_kindIf ⟨(Nat.le_of_ble_eq_true rfl), (Nat.le_of_ble_eq_true rfl)⟩ ⟨(Nat.le_of_ble_eq_true rfl), (Nat.le_of_ble_eq_true rfl)⟩ hK hH.1 7 2 rfl (cwc2 C A u2494) rfl hl.1 rfl (Nat.le_of_ble_eq_true rfl) dX5_fillLates_98 (fun r2507 p2508 => ?_)
                    refine lv_istore (lv' := [(12, .int r2507), (11, .int y2490d), (10, .int y2028d), (6, .int y2491d), (9, .int y1769d), (8, .int y2492d), (7, .int y2493d), (5, .int z1), (0, .ref (A 2)), (1, .int a1), (2, .int a2), (3, .ref (A 20)), (4, .int a4)]) hx hb dX5_fillLates_101 hl (by decide) rfl (fun ls hl => ?_)
                    refine lv_iload hx hb dX5_fillLates_103 (lv_at hl 0 rfl) ?_
                    have j146_2517 : ∀ (ls : Array Slot) (y2513d : Int32) (y2514d : Int32) (y2515d : Int32), 0 ≤ y2514d.toInt → y2514d.toInt ≤ 1 → lv_has ls 13 [(11, .int y2490d), (10, .int y2028d), (6, .int y2513d), (9, .int y1769d), (8, .int y2514d), (7, .int y2515d), (5, .int z1), (0, .ref (A 2)), (1, .int a1), (2, .int a2), (3, .ref (A 20)), (4, .int a4)] → W p l e (rmL 2 0 0) s m ar below meth c H locs 0 0 Q (F0 m 146 ls []) := by
                      intro ls y2513d y2514d y2515d ly2514d my2514d hl
                      obtain ⟨z2519, ez2519⟩ : ∃ z, z = y2490d + Int32.ofInt 1 := ⟨_, rfl⟩
                      have hz2519 : z2519.toInt = y2490d.toInt + 1 := by rw [ez2519]; exact tt_add rfl (by decide) (by omega) (by omega)
                      refine lv_iinc (v := z2519) (lv' := [(11, .int z2519), (10, .int y2028d), (6, .int y2513d), (9, .int y1769d), (8, .int y2514d), (7, .int y2515d), (5, .int z1), (0, .ref (A 2)), (1, .int a1), (2, .int a2), (3, .ref (A 20)), (4, .int a4)]) hx hb dX5_fillLates_146 hl (k := 0) rfl ez2519.symm (by decide) rfl (fun ls hl => ?_)
                      refine lv_goto (tgt := 85) hx hb dX5_fillLates_149 (by decide) ?_
                      exact ih85_2494 ls z2519 y2513d y2514d y2515d u2494 _ _ (by have q9 := (show z2519.toInt = (y2490d.toInt + 1) from hz2519); omega) (by have q9 := (show z2519.toInt = (y2490d.toInt + 1) from hz2519); omega) (by omega) (by omega) (by have q9 := (show z2519.toInt = (y2490d.toInt + 1) from hz2519); omega) hUu2494 hI hH hl
                    refine lv_if_ne (tgt := 125) hx hb dX5_fillLates_105 (by decide) (fun c2509 => ?_) (fun c2509 => ?_)
                    · refine lv_iload hx hb dX5_fillLates_125 (lv_at hl 0 rfl) ?_
                      refine lv_iconst (v := 1) hx hb dX5_fillLates_127 (by decide) ?_
                      refine lv_icmp_ne (tgt := 137) hx hb dX5_fillLates_128 (by decide) (fun c2520 => ?_) (fun c2520 => ?_)
                      · refine lv_iload hx hb dX5_fillLates_137 (lv_at hl 0 rfl) ?_
                        refine lv_iconst (v := 2) hx hb dX5_fillLates_139 (by decide) ?_
                        refine lv_icmp_ne (tgt := 146) hx hb dX5_fillLates_140 (by decide) (fun c2521 => ?_) (fun c2521 => ?_)
                        · exact j146_2517 ls y2491d y2492d y2493d (by omega) (by omega) (lv_sub hl [1, 2, 3, 4, 5, 6, 7, 8, 9, 10, 11, 12] rfl)
                        · have c2521 := cEQ (x := r2507) (y := 2) (X := r2507.toInt) (Y := 2) rfl (by decide) c2521
                          refine lv_iconst (v := 1) hx hb dX5_fillLates_143 (by decide) ?_
                          refine lv_istore (lv' := [(8, .int 1), (12, .int r2507), (11, .int y2490d), (10, .int y2028d), (6, .int y2491d), (9, .int y1769d), (7, .int y2493d), (5, .int z1), (0, .ref (A 2)), (1, .int a1), (2, .int a2), (3, .ref (A 20)), (4, .int a4)]) hx hb dX5_fillLates_144 hl (by decide) rfl (fun ls hl => ?_)
                          exact j146_2517 ls y2491d 1 y2493d (by decide) (by decide) (lv_sub hl [2, 3, 4, 5, 0, 6, 7, 8, 9, 10, 11, 12] rfl)
                      · have c2520 := cEQ (x := r2507) (y := 1) (X := r2507.toInt) (Y := 1) rfl (by decide) c2520
                        refine lv_iconst (v := 0) hx hb dX5_fillLates_131 (by decide) ?_
                        refine lv_istore (lv' := [(7, .int 0), (12, .int r2507), (11, .int y2490d), (10, .int y2028d), (6, .int y2491d), (9, .int y1769d), (8, .int y2492d), (5, .int z1), (0, .ref (A 2)), (1, .int a1), (2, .int a2), (3, .ref (A 20)), (4, .int a4)]) hx hb dX5_fillLates_132 hl (by decide) rfl (fun ls hl => ?_)
                        refine lv_goto (tgt := 146) hx hb dX5_fillLates_134 (by decide) ?_
                        exact j146_2517 ls y2491d y2492d 0 (by omega) (by omega) (lv_sub hl [2, 3, 4, 5, 6, 0, 7, 8, 9, 10, 11, 12] rfl)
                    · have c2509 := cEQ (x := r2507) (y := 0) (X := r2507.toInt) (Y := 0) rfl (by decide) c2509
                      refine lv_iconst (v := 0) hx hb dX5_fillLates_108 (by decide) ?_
                      refine lv_istore (lv' := [(6, .int 0), (12, .int r2507), (11, .int y2490d), (10, .int y2028d), (9, .int y1769d), (8, .int y2492d), (7, .int y2493d), (5, .int z1), (0, .ref (A 2)), (1, .int a1), (2, .int a2), (3, .ref (A 20)), (4, .int a4)]) hx hb dX5_fillLates_109 hl (by decide) rfl (fun ls hl => ?_)
                      refine lv_aload_n hx hb dX5_fillLates_111 rfl (lv_at hl 8 rfl) ?_
                      refine va_get (ci := 7) (v := .ref (A 54)) (C := RX7) (T := TX7) (N := 16) hx hb hts (fun w h => uc_in w (inX7 w h)) hown hK hH.1 2 (cwc2 C A u2494) rfl 10 (by decide) (hts _ (uc_in _ q_f104)) (fun _ h9 => h9) rfl dX5_fillLates_112 ?_
                      refine lv_iload_n hx hb dX5_fillLates_115 rfl (lv_at hl 9 rfl) ?_
                      refine va_iald hx hb hK hH.1 54 1 (cwc54 C A u2494) rfl (i_ix ha1 (by omega) (by omega)) dX5_fillLates_116 ?_
                      refine p_any (fun z2522 => ?_)
                      refine lv_istore (lv' := [(7, .int z2522), (6, .int 0), (12, .int r2507), (11, .int y2490d), (10, .int y2028d), (9, .int y1769d), (8, .int y2492d), (5, .int z1), (0, .ref (A 2)), (1, .int a1), (2, .int a2), (3, .ref (A 20)), (4, .int a4)]) hx hb dX5_fillLates_117 hl (by decide) rfl (fun ls hl => ?_)
                      refine lv_iconst (v := 0) hx hb dX5_fillLates_119 (by decide) ?_
                      refine lv_istore (lv' := [(8, .int 0), (7, .int z2522), (6, .int 0), (12, .int r2507), (11, .int y2490d), (10, .int y2028d), (9, .int y1769d), (5, .int z1), (0, .ref (A 2)), (1, .int a1), (2, .int a2), (3, .ref (A 20)), (4, .int a4)]) hx hb dX5_fillLates_120 hl (by decide) rfl (fun ls hl => ?_)
                      refine lv_goto (tgt := 146) hx hb dX5_fillLates_122 (by decide) ?_
                      exact j146_2517 ls 0 0 z2522 (by decide) (by decide) (lv_sub hl [4, 5, 2, 6, 0, 1, 7, 8, 9, 10, 11, 12] rfl)
              exact lp85_2494 41 ls 0 z2025 y1770d y1771d u1773 _ _ (by decide) (by decide) (by omega) (by omega) (by have q9 : (0 : Int32).toInt = 0 := (by decide); omega) Un.rf hI hH hl
            refine lv_icmp_ne (tgt := 76) hx hb dX5_fillLates_69 (by decide) (fun c2026 => ?_) (fun c2026 => ?_)
            · refine lv_aload_n hx hb dX5_fillLates_76 rfl (lv_at hl 5 rfl) ?_
              refine va_get (ci := 7) (v := .int (gi u1773 15)) (C := RX7) (T := TX7) (N := 16) hx hb hts (fun w h => uc_in w (inX7 w h)) hown hK hH.1 2 (cwc2 C A u1773) rfl 7 (by decide) (hts _ (uc_in _ q_f93)) (fun _ h9 => h9) rfl dX5_fillLates_77 ?_
              have b2523 := hI.b15
              exact j80_2269 ls (gi u1773 15) (by omega) (by omega) hl
            · have c2026 := cEQ (x := y1769d) (y := a2) (X := y1769d.toInt) (Y := A2) rfl ha2 c2026
              refine lv_iconst (v := 0) hx hb dX5_fillLates_72 (by decide) ?_
              refine lv_goto (tgt := 80) hx hb dX5_fillLates_73 (by decide) ?_
              exact j80_2269 ls 0 (by decide) (by decide) hl
          refine lv_icmp_le (tgt := 62) hx hb dX5_fillLates_54 (by decide) (fun c1777 => ?_) (fun c1777 => ?_)
          · have c1777 := cLE (x := y1769d) (y := z1) (X := y1769d.toInt) (Y := z1.toInt) rfl rfl c1777
            refine lv_iconst (v := 0) hx hb dX5_fillLates_62 (by decide) ?_
            exact j63_2023 ls 0 (lv_sub hl [0, 1, 2, 4, 5, 6, 7, 8, 9] rfl)
          · have c1777 := cNLE (x := y1769d) (y := z1) (X := y1769d.toInt) (Y := z1.toInt) rfl rfl c1777
            refine lv_iload hx hb dX5_fillLates_57 (lv_at hl 2 rfl) ?_
            refine lv_goto (tgt := 63) hx hb dX5_fillLates_59 (by decide) ?_
            exact j63_2023 ls y1771d (lv_sub hl [0, 1, 2, 4, 5, 6, 7, 8, 9] rfl)
    exact lp39_1773 8 ls z1 0 z1014 y4d u _ _ (by omega) (by omega) (by decide) (by decide) (by omega) Un.rf hI hH hl
  refine lv_icmp_ne (tgt := 21) hx hb dX5_fillLates_9 (by decide) (fun c2 => ?_) (fun c2 => ?_)
  · have c2 := cNE (x := a2) (y := (-1)) (X := A2) (Y := (-1)) ha2 (by decide) c2
    refine lv_iconst (v := 0) hx hb dX5_fillLates_21 (by decide) ?_
    exact j22_1012 ls 0 hl
  · have c2 := cEQ (x := a2) (y := (-1)) (X := A2) (Y := (-1)) ha2 (by decide) c2
    refine lv_aload_n hx hb dX5_fillLates_12 rfl (lv_at hl 1 rfl) ?_
    refine va_get (ci := 7) (v := .ref (A 53)) (C := RX7) (T := TX7) (N := 16) hx hb hts (fun w h => uc_in w (inX7 w h)) hown hK hH.1 2 (cwc2 C A u) rfl 9 (by decide) (hts _ (uc_in _ q_f100)) (fun _ h9 => h9) rfl dX5_fillLates_13 ?_
    refine lv_iload_n hx hb dX5_fillLates_16 rfl (lv_at hl 2 rfl) ?_
    refine va_iald hx hb hK hH.1 53 1 (cwc53 C A u) rfl (i_ix ha1 (by omega) (by omega)) dX5_fillLates_17 ?_
    refine p_any (fun z2524 => ?_)
    refine lv_goto (tgt := 22) hx hb dX5_fillLates_18 (by decide) ?_
    exact j22_1012 ls z2524 hl
set_option maxHeartbeats 4000000 in
set_option maxRecDepth 100000 in
theorem kX1_prepare_0 (l : Launch) (D : va_G) (C : Nat → ClassId) (A : Nat → Nat) (u : St) (hI : IC u) (sz : Nat) : MetV l yX1_prepare cX1_prepare 5 3 [.ref (A 12), .ref (A 2), .ref (A 7)] D (tyl C) (cw C A) X0 u sz (fun u' => IC u' ∧ Un [(61, 61), (62, 62), (63, 63)] [(43, 43), (91, 139), (140, 160)] [] u u' ∧ True) := by
  refine mV (by decide) (Nat.le_of_ble_eq_true rfl) ?_
  intro p e s m below meth c ls ar Q hx hb hml hown hts hK hH hX hl hret
  have hown : s.vm.findClass RX1 = some m.cls := hown
  have hl : lv_has ls 5 [(0, .ref (A 12)), (1, .ref (A 2)), (2, .ref (A 7))] := hl
  refine lv_aload_n hx hb dX1_prepare_0 rfl (lv_at hl 0 rfl) ?_
  refine lv_aload_n hx hb dX1_prepare_1 rfl (lv_at hl 2 rfl) ?_
  refine va_get (ci := 5) (v := .int (gi u 48)) (C := RX5) (T := TX5) (N := 4) hx hb hts (fun w h => uc_in w (inX5 w h)) hown hK hH.1 7 (cwc7 C A u) rfl 0 (by decide) (hts _ (uc_in _ q_f162)) (fun _ h9 => h9) rfl dX1_prepare_2 ?_
  have b1 := hI.b48
  refine r_put (j := 61) (ci := 1) (C := RX1) (T := TX1) (N := 15) hx hb hts (fun w h => uc_in w (inX1 w h)) tyX1 tyX1_ok nmX1 hown hK hH 12 (cwc12 C A u) rfl 3 (by decide) (hts _ (uc_in _ q_f223)) (fun _ h9 => h9) rfl (by decide +kernel) (Nat.le_of_ble_eq_true rfl) (cws61 C A u _) dX1_prepare_5 (fun u2 eu2 H locs hH => ?_)
  have hI := hI.s61 eu2 rfl (by omega) (by omega)
  refine lv_aload_n hx hb dX1_prepare_8 rfl (lv_at hl 0 rfl) ?_
  refine lv_aload_n hx hb dX1_prepare_9 rfl (lv_at hl 2 rfl) ?_
  refine va_get (ci := 5) (v := .int (gi u2 49)) (C := RX5) (T := TX5) (N := 4) hx hb hts (fun w h => uc_in w (inX5 w h)) hown hK hH.1 7 (cwc7 C A u2) rfl 1 (by decide) (hts _ (uc_in _ q_f166)) (fun _ h9 => h9) rfl dX1_prepare_10 ?_
  have b3 := hI.b49
  refine r_put (j := 62) (ci := 1) (C := RX1) (T := TX1) (N := 15) hx hb hts (fun w h => uc_in w (inX1 w h)) tyX1 tyX1_ok nmX1 hown hK hH 12 (cwc12 C A u2) rfl 4 (by decide) (hts _ (uc_in _ q_f224)) (fun _ h9 => h9) rfl (by decide +kernel) (Nat.le_of_ble_eq_true rfl) (cws62 C A u2 _) dX1_prepare_13 (fun u4 eu4 H locs hH => ?_)
  have hI := hI.s62 eu4 rfl (by omega) (by omega)
  refine lv_aload_n hx hb dX1_prepare_16 rfl (lv_at hl 0 rfl) ?_
  refine lv_aload_n hx hb dX1_prepare_17 rfl (lv_at hl 1 rfl) ?_
  refine va_get (ci := 7) (v := .int (gi u4 14)) (C := RX7) (T := TX7) (N := 16) hx hb hts (fun w h => uc_in w (inX7 w h)) hown hK hH.1 2 (cwc2 C A u4) rfl 6 (by decide) (hts _ (uc_in _ q_f89)) (fun _ h9 => h9) rfl dX1_prepare_18 ?_
  refine r_put (j := 63) (ci := 1) (C := RX1) (T := TX1) (N := 15) hx hb hts (fun w h => uc_in w (inX1 w h)) tyX1 tyX1_ok nmX1 hown hK hH 12 (cwc12 C A u4) rfl 5 (by decide) (hts _ (uc_in _ q_f225)) (fun _ h9 => h9) rfl (by decide +kernel) (Nat.le_of_ble_eq_true rfl) (cws63 C A u4 _) dX1_prepare_21 (fun u5 eu5 H locs hH => ?_)
  have hI := hI.pi0 eu5 rfl (by decide) (by decide)
  refine lv_iconst (v := 0) hx hb dX1_prepare_24 (by decide) ?_
  refine lv_istore_n (lv' := [(3, .int 0), (0, .ref (A 12)), (1, .ref (A 2)), (2, .ref (A 7))]) hx hb dX1_prepare_25 rfl hl (by decide) rfl (fun ls hl => ?_)
  have lp26_468 : ∀ (n26 : Nat) (ls : Array Slot) (y467d : Int32) (u468 : St) (H : Heap) (locs : List Loc), 0 ≤ y467d.toInt → y467d.toInt ≤ 7 → 7 - y467d.toInt < (n26 : Int) → Un [] [(43, 43), (91, 139), (140, 160)] [] u5 u468 → IC u468 → Hd D (cw C A) (va_A (cw C A u) s.heap.size) s.heap u468 H locs → lv_has ls 5 [(3, .int y467d), (0, .ref (A 12)), (1, .ref (A 2)), (2, .ref (A 7))] → W p l e (rmL 3 0 0) s m ar below meth c H locs 0 0 Q (F0 m 26 ls []) := by
    intro n26
    induction n26 with
    | zero => intro ls y467d u468 H locs ly467d my467d hmun26 hUu468 hI hH hl; exfalso; omega
    | succ n26 ih26_468 =>
      intro ls y467d u468 H locs ly467d my467d hmun26 hUu468 hI hH hl
      refine lv_iload_n hx hb dX1_prepare_26 rfl (lv_at hl 0 rfl) ?_
      refine lv_aload_n hx hb dX1_prepare_27 rfl (lv_at hl 1 rfl) ?_
      refine va_get (ci := 1) (v := .int (gi u468 61)) (C := RX1) (T := TX1) (N := 15) hx hb hts (fun w h => uc_in w (inX1 w h)) hown hK hH.1 12 (cwc12 C A u468) rfl 3 (by decide) (hts _ (uc_in _ q_f223)) (fun _ h9 => h9) rfl dX1_prepare_28 ?_
      refine pv_i (v := (gi u 48)) ((hUu468.1 61 rfl).trans ((gi_ne eu5 (by decide)).trans ((gi_ne eu4 (by decide)).trans (gi_si eu2)))) ?_
      refine lv_icmp_ge (tgt := 104) hx hb dX1_prepare_31 (by decide) (fun c470 => ?_) (fun c470 => ?_)
      · have c470 := cLE (x := (gi u 48)) (y := y467d) (X := ((gi u 48)).toInt) (Y := y467d.toInt) rfl rfl c470
        exact hret _ _ _ _ _ dX1_prepare_104 ⟨hI, (Un.tr (Un.si (Un.si (Un.si Un.rf rfl eu2) rfl eu4) rfl eu5) hUu468 rfl rfl rfl), trivial⟩ hH
      · have c470 := cNLE (x := (gi u 48)) (y := y467d) (X := ((gi u 48)).toInt) (Y := y467d.toInt) rfl rfl c470
        refine lv_aload_n hx hb dX1_prepare_34 rfl (lv_at hl 1 rfl) ?_
        refine va_get (ci := 1) (v := .ref (A 43)) (C := RX1) (T := TX1) (N := 15) hx hb hts (fun w h => uc_in w (inX1 w h)) hown hK hH.1 12 (cwc12 C A u468) rfl 8 (by decide) (hts _ (uc_in _ q_f228)) (fun _ h9 => h9) rfl dX1_prepare_35 ?_
        refine lv_iload_n hx hb dX1_prepare_38 rfl (lv_at hl 0 rfl) ?_
        refine lv_aload_n hx hb dX1_prepare_39 rfl (lv_at hl 3 rfl) ?_
        refine va_get (ci := 5) (v := .ref (A 38)) (C := RX5) (T := TX5) (N := 4) hx hb hts (fun w h => uc_in w (inX5 w h)) hown hK hH.1 7 (cwc7 C A u468) rfl 3 (by decide) (hts _ (uc_in _ q_f173)) (fun _ h9 => h9) rfl dX1_prepare_40 ?_
        refine lv_iload_n hx hb dX1_prepare_43 rfl (lv_at hl 0 rfl) ?_
        refine va_iald hx hb hK hH.1 38 1 (cwc38 C A u468) rfl (i_ix rfl (by omega) (by omega)) dX1_prepare_44 ?_
        refine p_any (fun z471 => ?_)
        refine r_iast (j := 43) hx hb hK hH 43 1 (cwc43 C A u468) rfl (i_ix rfl (by omega) (by omega)) (cwa43 C A u468) dX1_prepare_45 (fun u472 eu472 H locs hH => ?_)
        have hI := hI.pa0 eu472 (by decide)
        refine lv_aload_n hx hb dX1_prepare_46 rfl (lv_at hl 3 rfl) ?_
        refine va_get (ci := 5) (v := .ref (A 19)) (C := RX5) (T := TX5) (N := 4) hx hb hts (fun w h => uc_in w (inX5 w h)) hown hK hH.1 7 (cwc7 C A u472) rfl 2 (by decide) (hts _ (uc_in _ q_f169)) (fun _ h9 => h9) rfl dX1_prepare_47 ?_
        refine lv_iload_n hx hb dX1_prepare_50 rfl (lv_at hl 0 rfl) ?_
        refine r_aald hx hb hK hH.1 19 6 rfl (cwc19 C A u472) rfl (i_ix rfl (by omega) (by omega)) dX1_prepare_51 ?_
        obtain ⟨k473, hk473, ek473⟩ : ∃ k : Nat, (k : Int) = 32 + y467d.toInt ∧ k = 32 + Int32.toNatClampNeg y467d := ⟨_, by have q9 := i_cl (x := y467d) (X := y467d.toInt) rfl (by omega); omega, rfl⟩
        refine pv_v (v := .ref (A (52 + k473))) (by rw [ek473]; rfl) ?_
        refine lv_iconst (v := 0) hx hb dX1_prepare_52 (by decide) ?_
        refine lv_aload_n hx hb dX1_prepare_53 rfl (lv_at hl 1 rfl) ?_
        refine va_get (ci := 1) (v := .ref (A 21)) (C := RX1) (T := TX1) (N := 15) hx hb hts (fun w h => uc_in w (inX1 w h)) hown hK hH.1 12 (cwc12 C A u472) rfl 10 (by decide) (hts _ (uc_in _ q_f230)) (fun _ h9 => h9) rfl dX1_prepare_54 ?_
        refine lv_iload_n hx hb dX1_prepare_57 rfl (lv_at hl 0 rfl) ?_
        refine r_aald hx hb hK hH.1 21 6 rfl (cwc21 C A u472) rfl (i_ix rfl (by omega) (by omega)) dX1_prepare_58 ?_
        obtain ⟨k474, hk474, ek474⟩ : ∃ k : Nat, (k : Int) = 88 + y467d.toInt ∧ k = 88 + Int32.toNatClampNeg y467d := ⟨_, by have q9 := i_cl (x := y467d) (X := y467d.toInt) rfl (by omega); omega, rfl⟩
        refine pv_v (v := .ref (A (52 + k474))) (by rw [ek474]; rfl) ?_
        refine lv_iconst (v := 0) hx hb dX1_prepare_59 (by decide) ?_
        refine lv_bipush (v := 6) hx hb dX1_prepare_60 (by decide) ?_
        refine r_copyi (j0 := (52 + k473)) (j1 := (52 + k474)) (S' := 0) (P' := 0) (N' := 6) hx hb (by rw [hml]; exact hl.1.symm) hown (hts _ (uc_in _ q_m828)) (hts _ (uc_in _ q_t562)) (hts _ (uc_in _ q_s561)) (hts _ (uc_in _ q_i17)) hK hH (52 + k473) (52 + k474) 1 (cwp C A u472 k473 (by omega)) (cwp C A u472 k474 (by omega)) rfl (by decide) (by decide) (by decide) (by decide) (by decide) (by decide) (by decide) (by decide) (cwq C A u472 k474 (by omega)) (Nat.le_of_ble_eq_true rfl) (Nat.le_of_ble_eq_true rfl) dX1_prepare_62 (fun u475 eu475 H locs hH => ?_)
        have hI := hI.pa0 eu475 (by omega)
        refine lv_iconst (v := 0) hx hb dX1_prepare_65 (by decide) ?_
        refine lv_istore (lv' := [(4, .int 0), (3, .int y467d), (0, .ref (A 12)), (1, .ref (A 2)), (2, .ref (A 7))]) hx hb dX1_prepare_66 hl (by decide) rfl (fun ls hl => ?_)
        have lp68_531 : ∀ (n68 : Nat) (ls : Array Slot) (y530d : Int32) (u531 : St) (H : Heap) (locs : List Loc), 0 ≤ y530d.toInt → y530d.toInt ≤ 6 → 6 - y530d.toInt < (n68 : Int) → Un [] [(91, 139)] [] u475 u531 → IC u531 → Hd D (cw C A) (va_A (cw C A u) s.heap.size) s.heap u531 H locs → lv_has ls 5 [(4, .int y530d), (3, .int y467d), (0, .ref (A 12)), (1, .ref (A 2)), (2, .ref (A 7))] → W p l e (rmL 3 0 0) s m ar below meth c H locs 0 0 Q (F0 m 68 ls []) := by
          intro n68
          induction n68 with
          | zero => intro ls y530d u531 H locs ly530d my530d hmun68 hUu531 hI hH hl; exfalso; omega
          | succ n68 ih68_531 =>
            intro ls y530d u531 H locs ly530d my530d hmun68 hUu531 hI hH hl
            refine lv_iload hx hb dX1_prepare_68 (lv_at hl 0 rfl) ?_
            refine lv_aload_n hx hb dX1_prepare_70 rfl (lv_at hl 2 rfl) ?_
            refine va_get (ci := 1) (v := .int (gi u531 62)) (C := RX1) (T := TX1) (N := 15) hx hb hts (fun w h => uc_in w (inX1 w h)) hown hK hH.1 12 (cwc12 C A u531) rfl 4 (by decide) (hts _ (uc_in _ q_f224)) (fun _ h9 => h9) rfl dX1_prepare_71 ?_
            refine pv_i (v := (gi u2 49)) ((hUu531.1 62 rfl).trans ((gi_sa eu475).trans ((gi_sa eu472).trans ((hUu468.1 62 rfl).trans ((gi_ne eu5 (by decide)).trans (gi_si eu4)))))) ?_
            refine lv_icmp_ge (tgt := 98) hx hb dX1_prepare_74 (by decide) (fun c533 => ?_) (fun c533 => ?_)
            · have c533 := cLE (x := (gi u2 49)) (y := y530d) (X := ((gi u2 49)).toInt) (Y := y530d.toInt) rfl rfl c533
              obtain ⟨z534, ez534⟩ : ∃ z, z = y467d + Int32.ofInt 1 := ⟨_, rfl⟩
              have hz534 : z534.toInt = y467d.toInt + 1 := by rw [ez534]; exact tt_add rfl (by decide) (by omega) (by omega)
              refine lv_iinc (v := z534) (lv' := [(3, .int z534), (4, .int y530d), (0, .ref (A 12)), (1, .ref (A 2)), (2, .ref (A 7))]) hx hb dX1_prepare_98 hl (k := 1) rfl ez534.symm (by decide) rfl (fun ls hl => ?_)
              refine lv_goto (tgt := 26) hx hb dX1_prepare_101 (by decide) ?_
              exact ih26_468 ls z534 u531 _ _ (by have q9 := (show z534.toInt = (y467d.toInt + 1) from hz534); omega) (by have q9 := (show z534.toInt = (y467d.toInt + 1) from hz534); omega) (by have q9 := (show z534.toInt = (y467d.toInt + 1) from hz534); omega) (Un.tr (Un.sa (Un.sa hUu468 rfl eu472) (out_mem (lo := 140) (hi := 160) (by decide) (by omega) (by omega)) eu475) hUu531 rfl rfl rfl) hI hH (lv_sub hl [0, 2, 3, 4] rfl)
            · have c533 := cNLE (x := (gi u2 49)) (y := y530d) (X := ((gi u2 49)).toInt) (Y := y530d.toInt) rfl rfl c533
              refine lv_aload_n hx hb dX1_prepare_77 rfl (lv_at hl 3 rfl) ?_
              refine lv_iload hx hb dX1_prepare_78 (lv_at hl 0 rfl) ?_
              refine lv_iload_n hx hb dX1_prepare_80 rfl (lv_at hl 1 rfl) ?_
              refine lv_aload_n hx hb dX1_prepare_81 rfl (lv_at hl 2 rfl) ?_
              refine va_get (ci := 1) (v := .ref (A 20)) (C := RX1) (T := TX1) (N := 15) hx hb hts (fun w h => uc_in w (inX1 w h)) hown hK hH.1 12 (cwc12 C A u531) rfl 9 (by decide) (hts _ (uc_in _ q_f229)) (fun _ h9 => h9) rfl dX1_prepare_82 ?_
              refine lv_iload_n hx hb dX1_prepare_85 rfl (lv_at hl 1 rfl) ?_
              refine lv_bipush (v := 7) hx hb dX1_prepare_86 (by decide) ?_
              refine lv_imul hx hb dX1_prepare_88 ?_
              refine p_nm (tt_mul (X := y467d.toInt) (Y := 7) rfl (by decide) (by omega) (by omega)) (fun z535 hz535 => ?_)
              refine csU (n := 5) (As := [.ref (A 2), .int y530d, .int y467d, .ref (A 20), .int z535]) (rest := []) ⟨hx, hb, hml, hown, hts⟩ uc_in (kX5_fillLates_2 l D C A u531 hI y530d y530d.toInt rfl y467d y467d.toInt rfl z535 (y467d.toInt * 7) hz535 (by omega) (by omega) (by omega) (by omega) (by omega) (by omega) _) q_m829 q_s568 q_i4 q_c569 hvX5_fillLates ⟨(Nat.le_of_ble_eq_true rfl), (Nat.le_of_ble_eq_true rfl)⟩ ⟨(Nat.le_of_ble_eq_true rfl), (Nat.le_of_ble_eq_true rfl)⟩ hK hH (fun q h => Or.inr h) Bl0 (fun _ _ _ => trivial) rfl hl.1 rfl (Nat.le_of_ble_eq_true rfl) dX1_prepare_89 (fun u536 H locs p538 hH => ?_)
              obtain ⟨hI, hUu536, p538⟩ := p538
              obtain ⟨z539, ez539⟩ : ∃ z, z = y530d + Int32.ofInt 1 := ⟨_, rfl⟩
              have hz539 : z539.toInt = y530d.toInt + 1 := by rw [ez539]; exact tt_add rfl (by decide) (by omega) (by omega)
              refine lv_iinc (v := z539) (lv' := [(4, .int z539), (3, .int y467d), (0, .ref (A 12)), (1, .ref (A 2)), (2, .ref (A 7))]) hx hb dX1_prepare_92 hl (k := 0) rfl ez539.symm (by decide) rfl (fun ls hl => ?_)
              refine lv_goto (tgt := 68) hx hb dX1_prepare_95 (by decide) ?_
              exact ih68_531 ls z539 u536 _ _ (by have q9 := (show z539.toInt = (y530d.toInt + 1) from hz539); omega) (by have q9 := (show z539.toInt = (y530d.toInt + 1) from hz539); omega) (by have q9 := (show z539.toInt = (y530d.toInt + 1) from hz539); omega) (Un.tr hUu531 hUu536 rfl rfl rfl) hI hH hl
        exact lp68_531 7 ls 0 u475 _ _ (by decide) (by decide) (by have q9 : (0 : Int32).toInt = 0 := (by decide); omega) Un.rf hI hH hl
  exact lp26_468 8 ls 0 u5 _ _ (by decide) (by decide) (by have q9 : (0 : Int32).toInt = 0 := (by decide); omega) Un.rf hI hH hl
set_option maxHeartbeats 4000000 in
set_option maxRecDepth 100000 in
theorem kX1_tollOf_0 (l : Launch) (D : va_G) (C : Nat → ClassId) (A : Nat → Nat) (u : St) (hI : IC u) (a0 : Int32) (A0 : Int) (ha0 : a0.toInt = A0) : Met l yX1_tollOf (uc yX1_tollOf cX1_tollOf 2 (some .int)) (rmL 2 0 0) (va_Pc [.ref (A 12), .int a0] (PreR D (tyl C) (cw C A u))) (vp_Si (fun r => True)) 0 0 (fun _ => False) := by
  refine mS (by decide) (Nat.le_of_ble_eq_true rfl) ?_
  intro p e s m below meth c ls ar Q hx hb hml hown hts hK hP hl hret
  have hown : s.vm.findClass RX1 = some m.cls := hown
  have hl : lv_has ls 2 [(0, .ref (A 12)), (1, .int a0)] := hl
  refine lv_aload_n hx hb dX1_tollOf_0 rfl (lv_at hl 0 rfl) ?_
  refine va_get (ci := 1) (v := .int (gi u 64)) (C := RX1) (T := TX1) (N := 15) hx hb hts (fun w h => uc_in w (inX1 w h)) hown hK hP 12 (cwc12 C A u) rfl 6 (by decide) (hts _ (uc_in _ q_f226)) (fun _ h9 => h9) rfl dX1_tollOf_1 ?_
  refine lv_iconst (v := (-1)) hx hb dX1_tollOf_4 (by decide) ?_
  refine lv_icmp_ne (tgt := 17) hx hb dX1_tollOf_5 (by decide) (fun c1 => ?_) (fun c1 => ?_)
  · refine lv_iload_n hx hb dX1_tollOf_17 rfl (lv_at hl 1 rfl) ?_
    refine lv_aload_n hx hb dX1_tollOf_18 rfl (lv_at hl 0 rfl) ?_
    refine va_get (ci := 1) (v := .int (gi u 64)) (C := RX1) (T := TX1) (N := 15) hx hb hts (fun w h => uc_in w (inX1 w h)) hown hK hP 12 (cwc12 C A u) rfl 6 (by decide) (hts _ (uc_in _ q_f226)) (fun _ h9 => h9) rfl dX1_tollOf_19 ?_
    refine lv_icmp_le (tgt := 29) hx hb dX1_tollOf_22 (by decide) (fun c2 => ?_) (fun c2 => ?_)
    · have c2 := cLE (x := a0) (y := (gi u 64)) (X := A0) (Y := ((gi u 64)).toInt) ha0 rfl c2
      refine lv_iconst (v := 0) hx hb dX1_tollOf_29 (by decide) ?_
      exact hret _ _ (0 : Int32) dX1_tollOf_30 rfl trivial
    · have c2 := cNLE (x := a0) (y := (gi u 64)) (X := A0) (Y := ((gi u 64)).toInt) ha0 rfl c2
      refine lv_iconst (v := 1) hx hb dX1_tollOf_25 (by decide) ?_
      refine lv_goto (tgt := 30) hx hb dX1_tollOf_26 (by decide) ?_
      exact hret _ _ (1 : Int32) dX1_tollOf_30 rfl trivial
  · have c1 := cEQ (x := (gi u 64)) (y := (-1)) (X := ((gi u 64)).toInt) (Y := (-1)) rfl (by decide) c1
    refine lv_iload_n hx hb dX1_tollOf_8 rfl (lv_at hl 1 rfl) ?_
    refine lv_aload_n hx hb dX1_tollOf_9 rfl (lv_at hl 0 rfl) ?_
    refine va_get (ci := 1) (v := .int (gi u 63)) (C := RX1) (T := TX1) (N := 15) hx hb hts (fun w h => uc_in w (inX1 w h)) hown hK hP 12 (cwc12 C A u) rfl 5 (by decide) (hts _ (uc_in _ q_f225)) (fun _ h9 => h9) rfl dX1_tollOf_10 ?_
    refine csS (n := 2) (As := [.int a0, .int (gi u 63)]) (rest := []) ⟨hx, hb, hml, hown, hts⟩ uc_in (kX7_waitOf_0 l D C A u hI a0 A0 ha0 (gi u 63) (((gi u 63)).toInt) rfl) q_m839 q_s672 q_i3 q_c673 hvX7_waitOf ⟨(Nat.le_of_ble_eq_true rfl), (Nat.le_of_ble_eq_true rfl)⟩ ⟨(Nat.le_of_ble_eq_true rfl), (Nat.le_of_ble_eq_true rfl)⟩ hK hP rfl hl.1 rfl (Nat.le_of_ble_eq_true rfl) dX1_tollOf_13 (fun r3 p4 => ?_)
    exact hret _ _ r3 dX1_tollOf_16 rfl trivial
set_option maxHeartbeats 4000000 in
set_option maxRecDepth 100000 in
theorem kX1_toll_0 (l : Launch) (D : va_G) (C : Nat → ClassId) (A : Nat → Nat) (u : St) (hI : IC u) (a0 : Int32) (A0 : Int) (ha0 : a0.toInt = A0) (a1 : Int32) (A1 : Int) (ha1 : a1.toInt = A1) (hl0 : 0 ≤ A0) (hm0 : A0 ≤ 2) (hl1 : 0 ≤ A1) (hm1 : A1 ≤ 6) : Met l yX1_toll (uc yX1_toll cX1_toll 3 (some .int)) (rmL 3 0 0) (va_Pc [.ref (A 12), .int a0, .int a1] (PreR D (tyl C) (cw C A u))) (vp_Si (fun r => True)) 0 0 (fun _ => False) := by
  refine mS (by decide) (Nat.le_of_ble_eq_true rfl) ?_
  intro p e s m below meth c ls ar Q hx hb hml hown hts hK hP hl hret
  have hown : s.vm.findClass RX1 = some m.cls := hown
  have hl : lv_has ls 3 [(0, .ref (A 12)), (1, .int a0), (2, .int a1)] := hl
  refine lv_aload_n hx hb dX1_toll_0 rfl (lv_at hl 0 rfl) ?_
  refine lv_aload_n hx hb dX1_toll_1 rfl (lv_at hl 0 rfl) ?_
  refine va_get (ci := 1) (v := .ref (A 21)) (C := RX1) (T := TX1) (N := 15) hx hb hts (fun w h => uc_in w (inX1 w h)) hown hK hP 12 (cwc12 C A u) rfl 10 (by decide) (hts _ (uc_in _ q_f230)) (fun _ h9 => h9) rfl dX1_toll_2 ?_
  refine lv_iload_n hx hb dX1_toll_5 rfl (lv_at hl 1 rfl) ?_
  refine lv_bipush (v := 7) hx hb dX1_toll_6 (by decide) ?_
  refine lv_imul hx hb dX1_toll_8 ?_
  refine p_nm (tt_mul (X := A0) (Y := 7) ha0 (by decide) (by omega) (by omega)) (fun z1 hz1 => ?_)
  refine lv_iload_n hx hb dX1_toll_9 rfl (lv_at hl 2 rfl) ?_
  refine lv_iadd hx hb dX1_toll_10 ?_
  refine p_nm (tt_add (X := (A0 * 7)) (Y := A1) hz1 ha1 (by omega) (by omega)) (fun z2 hz2 => ?_)
  refine r_aald hx hb hK hP 21 6 rfl (cwc21 C A u) rfl (i_ix hz2 (by omega) (by omega)) dX1_toll_11 ?_
  obtain ⟨k3, hk3, ek3⟩ : ∃ k : Nat, (k : Int) = 88 + ((A0 * 7) + A1) ∧ k = 88 + Int32.toNatClampNeg z2 := ⟨_, by have q9 := i_cl (x := z2) (X := ((A0 * 7) + A1)) hz2 (by omega); omega, rfl⟩
  refine pv_v (v := .ref (A (52 + k3))) (by rw [ek3]; rfl) ?_
  refine lv_aload_n hx hb dX1_toll_12 rfl (lv_at hl 0 rfl) ?_
  refine va_get (ci := 1) (v := .ref (A 43)) (C := RX1) (T := TX1) (N := 15) hx hb hts (fun w h => uc_in w (inX1 w h)) hown hK hP 12 (cwc12 C A u) rfl 8 (by decide) (hts _ (uc_in _ q_f228)) (fun _ h9 => h9) rfl dX1_toll_13 ?_
  refine lv_iload_n hx hb dX1_toll_16 rfl (lv_at hl 2 rfl) ?_
  refine va_iald hx hb hK hP 43 1 (cwc43 C A u) rfl (i_ix ha1 (by omega) (by omega)) dX1_toll_17 ?_
  refine p_any (fun z4 => ?_)
  refine csS (n := 2) (As := [.ref (A (52 + k3)), .int z4]) (rest := [.ref (A 12)]) ⟨hx, hb, hml, hown, hts⟩ uc_in (kX5_noonOf_0 l D C A u hI k3 (by omega) z4 z4.toInt rfl) q_m834 q_s610 q_i4 q_c611 hvX5_noonOf ⟨(Nat.le_of_ble_eq_true rfl), (Nat.le_of_ble_eq_true rfl)⟩ ⟨(Nat.le_of_ble_eq_true rfl), (Nat.le_of_ble_eq_true rfl)⟩ hK hP rfl hl.1 rfl (Nat.le_of_ble_eq_true rfl) dX1_toll_18 (fun r5 p6 => ?_)
  refine cvS (n := 1) (As := [.int r5]) (rest := []) ⟨hx, hb, hml, hown, hts⟩ uc_in (kX1_tollOf_0 l D C A u hI r5 r5.toInt rfl) q_m835 q_n837 q_p27 q_i6 q_c838 hvX1_tollOf ⟨(Nat.le_of_ble_eq_true rfl), (Nat.le_of_ble_eq_true rfl)⟩ ⟨(Nat.le_of_ble_eq_true rfl), (Nat.le_of_ble_eq_true rfl)⟩ hK hP 1 12 rfl (cwc12 C A u) rfl hl.1 rfl (Nat.le_of_ble_eq_true rfl) dX1_toll_21 (fun r7 p8 => ?_)
  exact hret _ _ r7 dX1_toll_24 rfl trivial
set_option maxHeartbeats 4000000 in
set_option maxRecDepth 100000 in
theorem kX1_apply_0 (l : Launch) (D : va_G) (C : Nat → ClassId) (A : Nat → Nat) (u : St) (hI : IC u) (a0 : Int32) (A0 : Int) (ha0 : a0.toInt = A0) (a1 : Int32) (A1 : Int) (ha1 : a1.toInt = A1) (a2 : Int32) (A2 : Int) (ha2 : a2.toInt = A2) (hl0 : 0 ≤ A0) (hm0 : A0 ≤ 1) (hl1 : 0 ≤ A1) (hm1 : A1 ≤ 6) (hl2 : 0 ≤ A2) (hm2 : A2 ≤ 5) (sz : Nat) : MetI l yX1_apply cX1_apply 8 (some .boolean) 2 [.ref (A 12), .int a0, .int a1, .int a2] D (tyl C) (cw C A) X0 u sz (fun r u' => IC u' ∧ Un [] [(140, 160)] [] u u' ∧ (0 ≤ r.toInt ∧ r.toInt ≤ 1)) := by
  refine mI (by decide) (Nat.le_of_ble_eq_true rfl) ?_
  intro p e s m below meth c ls ar Q hx hb hml hown hts hK hH hX hl hret
  have hown : s.vm.findClass RX1 = some m.cls := hown
  have hl : lv_has ls 8 [(0, .ref (A 12)), (1, .int a0), (2, .int a1), (3, .int a2)] := hl
  refine lv_iconst (v := 0) hx hb dX1_apply_0 (by decide) ?_
  refine lv_istore (lv' := [(4, .int 0), (0, .ref (A 12)), (1, .int a0), (2, .int a1), (3, .int a2)]) hx hb dX1_apply_1 hl (by decide) rfl (fun ls hl => ?_)
  refine lv_iload_n hx hb dX1_apply_3 rfl (lv_at hl 3 rfl) ?_
  refine lv_istore (lv' := [(5, .int a1), (4, .int 0), (0, .ref (A 12)), (1, .int a0), (2, .int a1), (3, .int a2)]) hx hb dX1_apply_4 hl (by decide) rfl (fun ls hl => ?_)
  have lp6_86 : ∀ (n6 : Nat) (ls : Array Slot) (y84d : Int32) (y85d : Int32) (u86 : St) (H : Heap) (locs : List Loc), 0 ≤ y84d.toInt → y84d.toInt ≤ 7 → 0 ≤ y85d.toInt → y85d.toInt ≤ 1 → 7 - y84d.toInt < (n6 : Int) → Un [] [(140, 160)] [] u u86 → IC u86 → Hd D (cw C A) (va_A (cw C A u) s.heap.size) s.heap u86 H locs → lv_has ls 8 [(5, .int y84d), (4, .int y85d), (0, .ref (A 12)), (1, .int a0), (2, .int a1), (3, .int a2)] → W p l e (rmL 2 0 0) s m ar below meth c H locs 0 0 Q (F0 m 6 ls []) := by
    intro n6
    induction n6 with
    | zero => intro ls y84d y85d u86 H locs ly84d my84d ly85d my85d hmun6 hUu86 hI hH hl; exfalso; omega
    | succ n6 ih6_86 =>
      intro ls y84d y85d u86 H locs ly84d my84d ly85d my85d hmun6 hUu86 hI hH hl
      refine lv_iload hx hb dX1_apply_6 (lv_at hl 0 rfl) ?_
      refine lv_aload_n hx hb dX1_apply_8 rfl (lv_at hl 2 rfl) ?_
      refine va_get (ci := 1) (v := .int (gi u86 61)) (C := RX1) (T := TX1) (N := 15) hx hb hts (fun w h => uc_in w (inX1 w h)) hown hK hH.1 12 (cwc12 C A u86) rfl 3 (by decide) (hts _ (uc_in _ q_f223)) (fun _ h9 => h9) rfl dX1_apply_9 ?_
      have b88 := hI.b61
      refine lv_icmp_ge (tgt := 117) hx hb dX1_apply_12 (by decide) (fun c89 => ?_) (fun c89 => ?_)
      · have c89 := cLE (x := (gi u86 61)) (y := y84d) (X := ((gi u86 61)).toInt) (Y := y84d.toInt) rfl rfl c89
        refine lv_iload hx hb dX1_apply_117 (lv_at hl 1 rfl) ?_
        exact hret _ _ _ _ y85d _ dX1_apply_119 (n_b rfl (by omega) (by omega)) ⟨hI, (Un.tr Un.rf hUu86 rfl rfl rfl), ⟨by omega, by omega⟩⟩ hH
      · have c89 := cNLE (x := (gi u86 61)) (y := y84d) (X := ((gi u86 61)).toInt) (Y := y84d.toInt) rfl rfl c89
        refine lv_aload_n hx hb dX1_apply_15 rfl (lv_at hl 2 rfl) ?_
        refine va_get (ci := 1) (v := .ref (A 21)) (C := RX1) (T := TX1) (N := 15) hx hb hts (fun w h => uc_in w (inX1 w h)) hown hK hH.1 12 (cwc12 C A u86) rfl 10 (by decide) (hts _ (uc_in _ q_f230)) (fun _ h9 => h9) rfl dX1_apply_16 ?_
        refine lv_iload_n hx hb dX1_apply_19 rfl (lv_at hl 3 rfl) ?_
        refine lv_bipush (v := 7) hx hb dX1_apply_20 (by decide) ?_
        refine lv_imul hx hb dX1_apply_22 ?_
        refine p_nm (tt_mul (X := A0) (Y := 7) ha0 (by decide) (by omega) (by omega)) (fun z90 hz90 => ?_)
        refine lv_iload hx hb dX1_apply_23 (lv_at hl 0 rfl) ?_
        refine lv_iadd hx hb dX1_apply_25 ?_
        refine p_nm (tt_add (X := (A0 * 7)) (Y := y84d.toInt) hz90 rfl (by omega) (by omega)) (fun z91 hz91 => ?_)
        refine r_aald hx hb hK hH.1 21 6 rfl (cwc21 C A u86) rfl (i_ix hz91 (by omega) (by omega)) dX1_apply_26 ?_
        obtain ⟨k92, hk92, ek92⟩ : ∃ k : Nat, (k : Int) = 88 + ((A0 * 7) + y84d.toInt) ∧ k = 88 + Int32.toNatClampNeg z91 := ⟨_, by have q9 := i_cl (x := z91) (X := ((A0 * 7) + y84d.toInt)) hz91 (by omega); omega, rfl⟩
        refine pv_v (v := .ref (A (52 + k92))) (by rw [ek92]; rfl) ?_
        refine lv_astore (lv' := [(6, .ref (A (52 + k92))), (5, .int y84d), (4, .int y85d), (0, .ref (A 12)), (1, .int a0), (2, .int a1), (3, .int a2)]) hx hb dX1_apply_27 hl (by decide) rfl (fun ls hl => ?_)
        refine lv_aload_n hx hb dX1_apply_29 rfl (lv_at hl 3 rfl) ?_
        refine va_get (ci := 1) (v := .ref (A 21)) (C := RX1) (T := TX1) (N := 15) hx hb hts (fun w h => uc_in w (inX1 w h)) hown hK hH.1 12 (cwc12 C A u86) rfl 10 (by decide) (hts _ (uc_in _ q_f230)) (fun _ h9 => h9) rfl dX1_apply_30 ?_
        refine lv_iload_n hx hb dX1_apply_33 rfl (lv_at hl 4 rfl) ?_
        refine lv_iconst (v := 1) hx hb dX1_apply_34 (by decide) ?_
        refine lv_iadd hx hb dX1_apply_35 ?_
        refine p_nm (tt_add (X := A0) (Y := 1) ha0 (by decide) (by omega) (by omega)) (fun z93 hz93 => ?_)
        refine lv_bipush (v := 7) hx hb dX1_apply_36 (by decide) ?_
        refine lv_imul hx hb dX1_apply_38 ?_
        refine p_nm (tt_mul (X := (A0 + 1)) (Y := 7) hz93 (by decide) (by omega) (by omega)) (fun z94 hz94 => ?_)
        refine lv_iload hx hb dX1_apply_39 (lv_at hl 1 rfl) ?_
        refine lv_iadd hx hb dX1_apply_41 ?_
        refine p_nm (tt_add (X := ((A0 + 1) * 7)) (Y := y84d.toInt) hz94 rfl (by omega) (by omega)) (fun z95 hz95 => ?_)
        refine r_aald hx hb hK hH.1 21 6 rfl (cwc21 C A u86) rfl (i_ix hz95 (by omega) (by omega)) dX1_apply_42 ?_
        obtain ⟨k96, hk96, ek96⟩ : ∃ k : Nat, (k : Int) = 88 + (((A0 + 1) * 7) + y84d.toInt) ∧ k = 88 + Int32.toNatClampNeg z95 := ⟨_, by have q9 := i_cl (x := z95) (X := (((A0 + 1) * 7) + y84d.toInt)) hz95 (by omega); omega, rfl⟩
        refine pv_v (v := .ref (A (52 + k96))) (by rw [ek96]; rfl) ?_
        refine lv_astore (lv' := [(7, .ref (A (52 + k96))), (6, .ref (A (52 + k92))), (5, .int y84d), (4, .int y85d), (0, .ref (A 12)), (1, .int a0), (2, .int a1), (3, .int a2)]) hx hb dX1_apply_43 hl (by decide) rfl (fun ls hl => ?_)
        refine lv_aload hx hb dX1_apply_45 (lv_at hl 1 rfl) ?_
        refine lv_iconst (v := 0) hx hb dX1_apply_47 (by decide) ?_
        refine lv_aload hx hb dX1_apply_48 (lv_at hl 0 rfl) ?_
        refine lv_iconst (v := 0) hx hb dX1_apply_50 (by decide) ?_
        refine lv_bipush (v := 6) hx hb dX1_apply_51 (by decide) ?_
        refine r_copyi (j0 := (52 + k92)) (j1 := (52 + k96)) (S' := 0) (P' := 0) (N' := 6) hx hb (by rw [hml]; exact hl.1.symm) hown (hts _ (uc_in _ q_m828)) (hts _ (uc_in _ q_t562)) (hts _ (uc_in _ q_s561)) (hts _ (uc_in _ q_i17)) hK hH (52 + k92) (52 + k96) 1 (cwp C A u86 k92 (by omega)) (cwp C A u86 k96 (by omega)) rfl (by decide) (by decide) (by decide) (by decide) (by decide) (by decide) (by decide) (by decide) (cwq C A u86 k96 (by omega)) (Nat.le_of_ble_eq_true rfl) (Nat.le_of_ble_eq_true rfl) dX1_apply_53 (fun u97 eu97 H locs hH => ?_)
        have hI := hI.pa0 eu97 (by omega)
        refine lv_aload hx hb dX1_apply_56 (lv_at hl 0 rfl) ?_
        refine lv_iload_n hx hb dX1_apply_58 rfl (lv_at hl 7 rfl) ?_
        refine lv_aload_n hx hb dX1_apply_59 rfl (lv_at hl 4 rfl) ?_
        refine va_get (ci := 1) (v := .ref (A 20)) (C := RX1) (T := TX1) (N := 15) hx hb hts (fun w h => uc_in w (inX1 w h)) hown hK hH.1 12 (cwc12 C A u97) rfl 9 (by decide) (hts _ (uc_in _ q_f229)) (fun _ h9 => h9) rfl dX1_apply_60 ?_
        refine lv_iload_n hx hb dX1_apply_63 rfl (lv_at hl 6 rfl) ?_
        refine lv_bipush (v := 7) hx hb dX1_apply_64 (by decide) ?_
        refine lv_imul hx hb dX1_apply_66 ?_
        refine p_nm (tt_mul (X := A1) (Y := 7) ha1 (by decide) (by omega) (by omega)) (fun z98 hz98 => ?_)
        refine lv_iload hx hb dX1_apply_67 (lv_at hl 2 rfl) ?_
        refine lv_iadd hx hb dX1_apply_69 ?_
        refine p_nm (tt_add (X := (A1 * 7)) (Y := y84d.toInt) hz98 rfl (by omega) (by omega)) (fun z99 hz99 => ?_)
        refine r_aald hx hb hK hH.1 20 6 rfl (cwc20 C A u97) rfl (i_ix hz99 (by omega) (by omega)) dX1_apply_70 ?_
        obtain ⟨k100, hk100, ek100⟩ : ∃ k : Nat, (k : Int) = 39 + ((A1 * 7) + y84d.toInt) ∧ k = 39 + Int32.toNatClampNeg z99 := ⟨_, by have q9 := i_cl (x := z99) (X := ((A1 * 7) + y84d.toInt)) hz99 (by omega); omega, rfl⟩
        refine pv_v (v := .ref (A (52 + k100))) (by rw [ek100]; rfl) ?_
        refine lv_iload_n hx hb dX1_apply_71 rfl (lv_at hl 7 rfl) ?_
        refine va_iald hx hb hK hH.1 (52 + k100) 1 (cwp C A u97 k100 (by omega)) rfl (i_ix ha2 (by omega) (by omega)) dX1_apply_72 ?_
        refine p_any (fun z101 => ?_)
        refine r_iast (j := (52 + k96)) hx hb hK hH (52 + k96) 1 (cwp C A u97 k96 (by omega)) rfl (i_ix ha2 (by omega) (by omega)) (cwq C A u97 k96 (by omega)) dX1_apply_73 (fun u102 eu102 H locs hH => ?_)
        have hI := hI.pa0 eu102 (by omega)
        refine lv_iload hx hb dX1_apply_74 (lv_at hl 3 rfl) ?_
        have j109_113 : ∀ (ls : Array Slot) (y111d : Int32), 0 ≤ y111d.toInt → y111d.toInt ≤ 1 → lv_has ls 8 [(5, .int y84d), (0, .ref (A 12)), (1, .int a0), (2, .int a1), (3, .int a2)] → W p l e (rmL 2 0 0) s m ar below meth c H locs 0 0 Q (F0 m 109 ls [.int y111d]) := by
          intro ls y111d ly111d my111d hl
          refine lv_istore (lv' := [(4, .int y111d), (5, .int y84d), (0, .ref (A 12)), (1, .int a0), (2, .int a1), (3, .int a2)]) hx hb dX1_apply_109 hl (by decide) rfl (fun ls hl => ?_)
          obtain ⟨z115, ez115⟩ : ∃ z, z = y84d + Int32.ofInt 1 := ⟨_, rfl⟩
          have hz115 : z115.toInt = y84d.toInt + 1 := by rw [ez115]; exact tt_add rfl (by decide) (by omega) (by omega)
          refine lv_iinc (v := z115) (lv' := [(5, .int z115), (4, .int y111d), (0, .ref (A 12)), (1, .int a0), (2, .int a1), (3, .int a2)]) hx hb dX1_apply_111 hl (k := 1) rfl ez115.symm (by decide) rfl (fun ls hl => ?_)
          refine lv_goto (tgt := 6) hx hb dX1_apply_114 (by decide) ?_
          exact ih6_86 ls z115 y111d u102 _ _ (by have q9 := (show z115.toInt = (y84d.toInt + 1) from hz115); omega) (by have q9 := (show z115.toInt = (y84d.toInt + 1) from hz115); omega) (by omega) (by omega) (by have q9 := (show z115.toInt = (y84d.toInt + 1) from hz115); omega) (Un.sa (Un.sa hUu86 (out_mem (lo := 140) (hi := 160) (by decide) (by omega) (by omega)) eu97) (out_mem (lo := 140) (hi := 160) (by decide) (by omega) (by omega)) eu102) hI hH hl
        have j104_116 : ∀ (ls : Array Slot), lv_has ls 8 [(5, .int y84d), (0, .ref (A 12)), (1, .int a0), (2, .int a1), (3, .int a2)] → W p l e (rmL 2 0 0) s m ar below meth c H locs 0 0 Q (F0 m 104 ls []) := by
          intro ls hl
          refine lv_iconst (v := 1) hx hb dX1_apply_104 (by decide) ?_
          refine lv_goto (tgt := 109) hx hb dX1_apply_105 (by decide) ?_
          exact j109_113 ls 1 (by decide) (by decide) hl
        refine lv_if_ne (tgt := 104) hx hb dX1_apply_76 (by decide) (fun c103 => ?_) (fun c103 => ?_)
        · have c103 := cNE (x := y85d) (y := 0) (X := y85d.toInt) (Y := 0) rfl (by decide) c103
          exact j104_116 ls (lv_sub hl [2, 4, 5, 6, 7] rfl)
        · have c103 := cEQ (x := y85d) (y := 0) (X := y85d.toInt) (Y := 0) rfl (by decide) c103
          refine lv_aload_n hx hb dX1_apply_79 rfl (lv_at hl 4 rfl) ?_
          refine va_get (ci := 1) (v := .ref (A 43)) (C := RX1) (T := TX1) (N := 15) hx hb hts (fun w h => uc_in w (inX1 w h)) hown hK hH.1 12 (cwc12 C A u102) rfl 8 (by decide) (hts _ (uc_in _ q_f228)) (fun _ h9 => h9) rfl dX1_apply_80 ?_
          refine lv_iload hx hb dX1_apply_83 (lv_at hl 2 rfl) ?_
          refine va_iald hx hb hK hH.1 43 1 (cwc43 C A u102) rfl (i_ix rfl (by omega) (by omega)) dX1_apply_85 ?_
          refine p_any (fun z118 => ?_)
          refine lv_iload_n hx hb dX1_apply_86 rfl (lv_at hl 7 rfl) ?_
          refine csS (n := 2) (As := [.int z118, .int a2]) (rest := []) ⟨hx, hb, hml, hown, hts⟩ uc_in (kX5_has_0 l D C A u102 hI z118 z118.toInt rfl a2 A2 ha2) q_m853 q_s641 q_i4 q_c642 hvX5_has ⟨(Nat.le_of_ble_eq_true rfl), (Nat.le_of_ble_eq_true rfl)⟩ ⟨(Nat.le_of_ble_eq_true rfl), (Nat.le_of_ble_eq_true rfl)⟩ hK hH.1 rfl hl.1 rfl (Nat.le_of_ble_eq_true rfl) dX1_apply_87 (fun r119 p120 => ?_)
          have p120 : 0 ≤ r119.toInt ∧ r119.toInt ≤ 1 := p120
          have j108_125 : ∀ (ls : Array Slot), lv_has ls 8 [(5, .int y84d), (0, .ref (A 12)), (1, .int a0), (2, .int a1), (3, .int a2)] → W p l e (rmL 2 0 0) s m ar below meth c H locs 0 0 Q (F0 m 108 ls []) := by
            intro ls hl
            refine lv_iconst (v := 0) hx hb dX1_apply_108 (by decide) ?_
            exact j109_113 ls 0 (by decide) (by decide) hl
          refine lv_if_eq (tgt := 108) hx hb dX1_apply_90 (by decide) (fun c121 => ?_) (fun c121 => ?_)
          · have c121 := cEQ (x := r119) (y := 0) (X := r119.toInt) (Y := 0) rfl (by decide) c121
            exact j108_125 ls (lv_sub hl [2, 4, 5, 6, 7] rfl)
          · have c121 := cNE (x := r119) (y := 0) (X := r119.toInt) (Y := 0) rfl (by decide) c121
            refine lv_aload hx hb dX1_apply_93 (lv_at hl 0 rfl) ?_
            refine lv_iload_n hx hb dX1_apply_95 rfl (lv_at hl 7 rfl) ?_
            refine va_iald hx hb hK hH.1 (52 + k96) 1 (cwp C A u102 k96 (by omega)) rfl (i_ix ha2 (by omega) (by omega)) dX1_apply_96 ?_
            refine p_any (fun z127 => ?_)
            refine lv_aload hx hb dX1_apply_97 (lv_at hl 1 rfl) ?_
            refine lv_iload_n hx hb dX1_apply_99 rfl (lv_at hl 7 rfl) ?_
            refine va_iald hx hb hK hH.1 (52 + k92) 1 (cwp C A u102 k92 (by omega)) rfl (i_ix ha2 (by omega) (by omega)) dX1_apply_100 ?_
            refine p_any (fun z128 => ?_)
            refine lv_icmp_eq (tgt := 108) hx hb dX1_apply_101 (by decide) (fun c129 => ?_) (fun c129 => ?_)
            · have c129 := cEQ (x := z127) (y := z128) (X := z127.toInt) (Y := z128.toInt) rfl rfl c129
              exact j108_125 ls (lv_sub hl [2, 4, 5, 6, 7] rfl)
            · exact j104_116 ls (lv_sub hl [2, 4, 5, 6, 7] rfl)
  exact lp6_86 8 ls a1 0 u _ _ (by have q9 := (show a1.toInt = A1 from ha1); omega) (by have q9 := (show a1.toInt = A1 from ha1); omega) (by decide) (by decide) (by have q9 := (show a1.toInt = A1 from ha1); omega) Un.rf hI hH hl
set_option maxHeartbeats 4000000 in
set_option maxRecDepth 100000 in
theorem kX1_look_0 (l : Launch) (D : va_G) (C : Nat → ClassId) (A : Nat → Nat) (u : St) (hI : IC u) (a0 : Int32) (A0 : Int) (ha0 : a0.toInt = A0) (a1 : Int32) (A1 : Int) (ha1 : a1.toInt = A1) (hl0 : 0 ≤ A0) (hm0 : A0 ≤ 2) (hl1 : 0 ≤ A1) (hm1 : A1 ≤ 6) (sz : Nat) : MetV l yX1_look cX1_look 7 3 [.ref (A 12), .int a0, .int a1] D (tyl C) (cw C A) X0 u sz (fun u' => IC u' ∧ Un [] [(44, 44), (45, 45), (46, 46), (47, 47)] [] u u' ∧ True) := by
  refine mV (by decide) (Nat.le_of_ble_eq_true rfl) ?_
  intro p e s m below meth c ls ar Q hx hb hml hown hts hK hH hX hl hret
  have hown : s.vm.findClass RX1 = some m.cls := hown
  have hl : lv_has ls 7 [(0, .ref (A 12)), (1, .int a0), (2, .int a1)] := hl
  refine lv_iconst (v := 0) hx hb dX1_look_0 (by decide) ?_
  refine lv_istore_n (lv' := [(3, .int 0), (0, .ref (A 12)), (1, .int a0), (2, .int a1)]) hx hb dX1_look_1 rfl hl (by decide) rfl (fun ls hl => ?_)
  refine lv_aload_n hx hb dX1_look_2 rfl (lv_at hl 1 rfl) ?_
  refine va_get (ci := 1) (v := .int (gi u 61)) (C := RX1) (T := TX1) (N := 15) hx hb hts (fun w h => uc_in w (inX1 w h)) hown hK hH.1 12 (cwc12 C A u) rfl 3 (by decide) (hts _ (uc_in _ q_f223)) (fun _ h9 => h9) rfl dX1_look_3 ?_
  have b1 := hI.b61
  refine lv_iconst (v := 1) hx hb dX1_look_6 (by decide) ?_
  refine lv_isub hx hb dX1_look_7 ?_
  refine p_nm (tt_sub (X := ((gi u 61)).toInt) (Y := 1) rfl (by decide) (by omega) (by omega)) (fun z2 hz2 => ?_)
  refine lv_istore (lv' := [(4, .int z2), (3, .int 0), (0, .ref (A 12)), (1, .int a0), (2, .int a1)]) hx hb dX1_look_8 hl (by decide) rfl (fun ls hl => ?_)
  have lp10_106 : ∀ (n10 : Nat) (ls : Array Slot) (y104d : Int32) (y105d : Int32) (u106 : St) (H : Heap) (locs : List Loc), (-1) ≤ y104d.toInt → y104d.toInt ≤ 6 → 0 ≤ y105d.toInt → y105d.toInt ≤ 63 → y104d.toInt - (-1) < (n10 : Int) → Un [] [(44, 44), (45, 45), (46, 46), (47, 47)] [] u u106 → IC u106 → Hd D (cw C A) (va_A (cw C A u) s.heap.size) s.heap u106 H locs → lv_has ls 7 [(4, .int y104d), (3, .int y105d), (0, .ref (A 12)), (1, .int a0), (2, .int a1)] → W p l e (rmL 3 0 0) s m ar below meth c H locs 0 0 Q (F0 m 10 ls []) := by
    intro n10
    induction n10 with
    | zero => intro ls y104d y105d u106 H locs ly104d my104d ly105d my105d hmun10 hUu106 hI hH hl; exfalso; omega
    | succ n10 ih10_106 =>
      intro ls y104d y105d u106 H locs ly104d my104d ly105d my105d hmun10 hUu106 hI hH hl
      refine lv_iload hx hb dX1_look_10 (lv_at hl 0 rfl) ?_
      refine lv_iload_n hx hb dX1_look_12 rfl (lv_at hl 4 rfl) ?_
      refine lv_icmp_lt (tgt := 185) hx hb dX1_look_13 (by decide) (fun c108 => ?_) (fun c108 => ?_)
      · have c108 := cLT (x := y104d) (y := a1) (X := y104d.toInt) (Y := A1) rfl ha1 c108
        exact hret _ _ _ _ _ dX1_look_185 ⟨hI, (Un.tr Un.rf hUu106 rfl rfl rfl), trivial⟩ hH
      · have c108 := cNLT (x := y104d) (y := a1) (X := y104d.toInt) (Y := A1) rfl ha1 c108
        refine lv_aload_n hx hb dX1_look_16 rfl (lv_at hl 2 rfl) ?_
        refine va_get (ci := 1) (v := .ref (A 21)) (C := RX1) (T := TX1) (N := 15) hx hb hts (fun w h => uc_in w (inX1 w h)) hown hK hH.1 12 (cwc12 C A u106) rfl 10 (by decide) (hts _ (uc_in _ q_f230)) (fun _ h9 => h9) rfl dX1_look_17 ?_
        refine lv_iload_n hx hb dX1_look_20 rfl (lv_at hl 3 rfl) ?_
        refine lv_bipush (v := 7) hx hb dX1_look_21 (by decide) ?_
        refine lv_imul hx hb dX1_look_23 ?_
        refine p_nm (tt_mul (X := A0) (Y := 7) ha0 (by decide) (by omega) (by omega)) (fun z109 hz109 => ?_)
        refine lv_iload hx hb dX1_look_24 (lv_at hl 0 rfl) ?_
        refine lv_iadd hx hb dX1_look_26 ?_
        refine p_nm (tt_add (X := (A0 * 7)) (Y := y104d.toInt) hz109 rfl (by omega) (by omega)) (fun z110 hz110 => ?_)
        refine r_aald hx hb hK hH.1 21 6 rfl (cwc21 C A u106) rfl (i_ix hz110 (by omega) (by omega)) dX1_look_27 ?_
        obtain ⟨k111, hk111, ek111⟩ : ∃ k : Nat, (k : Int) = 88 + ((A0 * 7) + y104d.toInt) ∧ k = 88 + Int32.toNatClampNeg z110 := ⟨_, by have q9 := i_cl (x := z110) (X := ((A0 * 7) + y104d.toInt)) hz110 (by omega); omega, rfl⟩
        refine pv_v (v := .ref (A (52 + k111))) (by rw [ek111]; rfl) ?_
        refine lv_astore (lv' := [(5, .ref (A (52 + k111))), (4, .int y104d), (3, .int y105d), (0, .ref (A 12)), (1, .int a0), (2, .int a1)]) hx hb dX1_look_28 hl (by decide) rfl (fun ls hl => ?_)
        refine lv_aload_n hx hb dX1_look_30 rfl (lv_at hl 3 rfl) ?_
        refine va_get (ci := 1) (v := .ref (A 44)) (C := RX1) (T := TX1) (N := 15) hx hb hts (fun w h => uc_in w (inX1 w h)) hown hK hH.1 12 (cwc12 C A u106) rfl 11 (by decide) (hts _ (uc_in _ q_f231)) (fun _ h9 => h9) rfl dX1_look_31 ?_
        refine lv_iload hx hb dX1_look_34 (lv_at hl 1 rfl) ?_
        refine lv_aload hx hb dX1_look_36 (lv_at hl 0 rfl) ?_
        refine lv_aload_n hx hb dX1_look_38 rfl (lv_at hl 3 rfl) ?_
        refine va_get (ci := 1) (v := .ref (A 43)) (C := RX1) (T := TX1) (N := 15) hx hb hts (fun w h => uc_in w (inX1 w h)) hown hK hH.1 12 (cwc12 C A u106) rfl 8 (by decide) (hts _ (uc_in _ q_f228)) (fun _ h9 => h9) rfl dX1_look_39 ?_
        refine lv_iload hx hb dX1_look_42 (lv_at hl 1 rfl) ?_
        refine va_iald hx hb hK hH.1 43 1 (cwc43 C A u106) rfl (i_ix rfl (by omega) (by omega)) dX1_look_44 ?_
        refine p_any (fun z112 => ?_)
        refine csS (n := 2) (As := [.ref (A (52 + k111)), .int z112]) (rest := [.int y104d, .ref (A 44)]) ⟨hx, hb, hml, hown, hts⟩ uc_in (kX5_lastOf_0 l D C A u106 hI k111 (by omega) z112 z112.toInt rfl) q_m852 q_s613 q_i4 q_c614 hvX5_lastOf ⟨(Nat.le_of_ble_eq_true rfl), (Nat.le_of_ble_eq_true rfl)⟩ ⟨(Nat.le_of_ble_eq_true rfl), (Nat.le_of_ble_eq_true rfl)⟩ hK hH.1 rfl hl.1 rfl (Nat.le_of_ble_eq_true rfl) dX1_look_45 (fun r113 p114 => ?_)
        have p114 : (-1) ≤ r113.toInt ∧ r113.toInt ≤ 5 := p114
        refine r_iast (j := 44) hx hb hK hH 44 1 (cwc44 C A u106) rfl (i_ix rfl (by omega) (by omega)) (cwa44 C A u106) dX1_look_48 (fun u115 eu115 H locs hH => ?_)
        have hI := hI.pa0 eu115 (by decide)
        refine lv_aload_n hx hb dX1_look_49 rfl (lv_at hl 3 rfl) ?_
        refine va_get (ci := 1) (v := .ref (A 45)) (C := RX1) (T := TX1) (N := 15) hx hb hts (fun w h => uc_in w (inX1 w h)) hown hK hH.1 12 (cwc12 C A u115) rfl 12 (by decide) (hts _ (uc_in _ q_f232)) (fun _ h9 => h9) rfl dX1_look_50 ?_
        refine lv_iload hx hb dX1_look_53 (lv_at hl 1 rfl) ?_
        refine lv_aload_n hx hb dX1_look_55 rfl (lv_at hl 3 rfl) ?_
        refine va_get (ci := 1) (v := .ref (A 44)) (C := RX1) (T := TX1) (N := 15) hx hb hts (fun w h => uc_in w (inX1 w h)) hown hK hH.1 12 (cwc12 C A u115) rfl 11 (by decide) (hts _ (uc_in _ q_f231)) (fun _ h9 => h9) rfl dX1_look_56 ?_
        refine lv_iload hx hb dX1_look_59 (lv_at hl 1 rfl) ?_
        refine va_iald hx hb hK hH.1 44 1 (cwc44 C A u115) rfl (i_ix rfl (by omega) (by omega)) dX1_look_61 ?_
        refine pv_i (v := r113) (ga_el eu115) ?_
        refine lv_iconst (v := (-1)) hx hb dX1_look_62 (by decide) ?_
        have j80_139 : ∀ (ls : Array Slot) (y118d : Int32), lv_has ls 7 [(5, .ref (A (52 + k111))), (4, .int y104d), (3, .int y105d), (0, .ref (A 12)), (1, .int a0), (2, .int a1)] → W p l e (rmL 3 0 0) s m ar below meth c H locs 0 0 Q (F0 m 80 ls [.int y118d, .int y104d, .ref (A 45)]) := by
          intro ls y118d hl
          refine r_iast (j := 45) hx hb hK hH 45 1 (cwc45 C A u115) rfl (i_ix rfl (by omega) (by omega)) (cwa45 C A u115) dX1_look_80 (fun u141 eu141 H locs hH => ?_)
          have hI := hI.pa0 eu141 (by decide)
          refine lv_aload_n hx hb dX1_look_81 rfl (lv_at hl 3 rfl) ?_
          refine va_get (ci := 1) (v := .ref (A 44)) (C := RX1) (T := TX1) (N := 15) hx hb hts (fun w h => uc_in w (inX1 w h)) hown hK hH.1 12 (cwc12 C A u141) rfl 11 (by decide) (hts _ (uc_in _ q_f231)) (fun _ h9 => h9) rfl dX1_look_82 ?_
          refine lv_iload hx hb dX1_look_85 (lv_at hl 1 rfl) ?_
          refine va_iald hx hb hK hH.1 44 1 (cwc44 C A u141) rfl (i_ix rfl (by omega) (by omega)) dX1_look_87 ?_
          refine pv_i (v := r113) ((congrFun (ga_ne eu141 (by decide)) _).trans (ga_el eu115)) ?_
          refine lv_iconst (v := (-1)) hx hb dX1_look_88 (by decide) ?_
          have j115_161 : ∀ (ls : Array Slot) (y148d : Int32), lv_has ls 7 [(5, .ref (A (52 + k111))), (4, .int y104d), (3, .int y105d), (0, .ref (A 12)), (1, .int a0), (2, .int a1)] → W p l e (rmL 3 0 0) s m ar below meth c H locs 0 0 Q (F0 m 115 ls [.int y148d]) := by
            intro ls y148d hl
            refine lv_istore (lv' := [(6, .int y148d), (5, .ref (A (52 + k111))), (4, .int y104d), (3, .int y105d), (0, .ref (A 12)), (1, .int a0), (2, .int a1)]) hx hb dX1_look_115 hl (by decide) rfl (fun ls hl => ?_)
            refine lv_aload_n hx hb dX1_look_117 rfl (lv_at hl 4 rfl) ?_
            refine va_get (ci := 1) (v := .ref (A 46)) (C := RX1) (T := TX1) (N := 15) hx hb hts (fun w h => uc_in w (inX1 w h)) hown hK hH.1 12 (cwc12 C A u141) rfl 13 (by decide) (hts _ (uc_in _ q_f233)) (fun _ h9 => h9) rfl dX1_look_118 ?_
            refine lv_iload hx hb dX1_look_121 (lv_at hl 2 rfl) ?_
            refine lv_aload hx hb dX1_look_123 (lv_at hl 1 rfl) ?_
            refine lv_iload hx hb dX1_look_125 (lv_at hl 0 rfl) ?_
            refine csS (n := 2) (As := [.ref (A (52 + k111)), .int y148d]) (rest := [.int y104d, .ref (A 46)]) ⟨hx, hb, hml, hown, hts⟩ uc_in (kX5_noonOf_0 l D C A u141 hI k111 (by omega) y148d y148d.toInt rfl) q_m834 q_s610 q_i4 q_c611 hvX5_noonOf ⟨(Nat.le_of_ble_eq_true rfl), (Nat.le_of_ble_eq_true rfl)⟩ ⟨(Nat.le_of_ble_eq_true rfl), (Nat.le_of_ble_eq_true rfl)⟩ hK hH.1 rfl hl.1 rfl (Nat.le_of_ble_eq_true rfl) dX1_look_127 (fun r163 p164 => ?_)
            refine r_iast (j := 46) hx hb hK hH 46 1 (cwc46 C A u141) rfl (i_ix rfl (by omega) (by omega)) (cwa46 C A u141) dX1_look_130 (fun u165 eu165 H locs hH => ?_)
            have hI := hI.pa0 eu165 (by decide)
            refine lv_aload_n hx hb dX1_look_131 rfl (lv_at hl 4 rfl) ?_
            refine va_get (ci := 1) (v := .ref (A 44)) (C := RX1) (T := TX1) (N := 15) hx hb hts (fun w h => uc_in w (inX1 w h)) hown hK hH.1 12 (cwc12 C A u165) rfl 11 (by decide) (hts _ (uc_in _ q_f231)) (fun _ h9 => h9) rfl dX1_look_132 ?_
            refine lv_iload hx hb dX1_look_135 (lv_at hl 2 rfl) ?_
            refine va_iald hx hb hK hH.1 44 1 (cwc44 C A u165) rfl (i_ix rfl (by omega) (by omega)) dX1_look_137 ?_
            refine pv_i (v := r113) ((congrFun (ga_ne eu165 (by decide)) _).trans ((congrFun (ga_ne eu141 (by decide)) _).trans (ga_el eu115))) ?_
            refine lv_iconst (v := (-1)) hx hb dX1_look_138 (by decide) ?_
            have j171_175 : ∀ (ls : Array Slot) (y172d : Int32), 0 ≤ y172d.toInt → y172d.toInt ≤ 63 → lv_has ls 7 [(4, .int y104d), (3, .int y172d), (0, .ref (A 12)), (1, .int a0), (2, .int a1)] → W p l e (rmL 3 0 0) s m ar below meth c H locs 0 0 Q (F0 m 171 ls []) := by
              intro ls y172d ly172d my172d hl
              refine lv_aload_n hx hb dX1_look_171 rfl (lv_at hl 2 rfl) ?_
              refine va_get (ci := 1) (v := .ref (A 47)) (C := RX1) (T := TX1) (N := 15) hx hb hts (fun w h => uc_in w (inX1 w h)) hown hK hH.1 12 (cwc12 C A u165) rfl 14 (by decide) (hts _ (uc_in _ q_f234)) (fun _ h9 => h9) rfl dX1_look_172 ?_
              refine lv_iload hx hb dX1_look_175 (lv_at hl 0 rfl) ?_
              refine lv_iload_n hx hb dX1_look_177 rfl (lv_at hl 1 rfl) ?_
              refine r_iast (j := 47) hx hb hK hH 47 1 (cwc47 C A u165) rfl (i_ix rfl (by omega) (by omega)) (cwa47 C A u165) dX1_look_178 (fun u177 eu177 H locs hH => ?_)
              have hI := hI.pa0 eu177 (by decide)
              obtain ⟨z178, ez178⟩ : ∃ z, z = y104d + Int32.ofInt (-1) := ⟨_, rfl⟩
              have hz178 : z178.toInt = y104d.toInt + (-1) := by rw [ez178]; exact tt_add rfl (by decide) (by omega) (by omega)
              refine lv_iinc (v := z178) (lv' := [(4, .int z178), (3, .int y172d), (0, .ref (A 12)), (1, .int a0), (2, .int a1)]) hx hb dX1_look_179 hl (k := 0) rfl ez178.symm (by decide) rfl (fun ls hl => ?_)
              refine lv_goto (tgt := 10) hx hb dX1_look_182 (by decide) ?_
              exact ih10_106 ls z178 y172d u177 _ _ (by have q9 := (show z178.toInt = (y104d.toInt + (-1)) from hz178); omega) (by have q9 := (show z178.toInt = (y104d.toInt + (-1)) from hz178); omega) (by omega) (by omega) (by have q9 := (show z178.toInt = (y104d.toInt + (-1)) from hz178); omega) (Un.sa (Un.sa (Un.sa (Un.sa hUu106 rfl eu115) rfl eu141) rfl eu165) rfl eu177) hI hH hl
            refine lv_icmp_eq (tgt := 171) hx hb dX1_look_139 (by decide) (fun c166 => ?_) (fun c166 => ?_)
            · have c166 := cEQ (x := r113) (y := (-1)) (X := r113.toInt) (Y := (-1)) rfl (by decide) c166
              exact j171_175 ls y105d (by omega) (by omega) (lv_sub hl [2, 3, 4, 5, 6] rfl)
            · have c166 := cNE (x := r113) (y := (-1)) (X := r113.toInt) (Y := (-1)) rfl (by decide) c166
              refine lv_aload_n hx hb dX1_look_142 rfl (lv_at hl 4 rfl) ?_
              refine va_get (ci := 1) (v := .ref (A 46)) (C := RX1) (T := TX1) (N := 15) hx hb hts (fun w h => uc_in w (inX1 w h)) hown hK hH.1 12 (cwc12 C A u165) rfl 13 (by decide) (hts _ (uc_in _ q_f233)) (fun _ h9 => h9) rfl dX1_look_143 ?_
              refine lv_iload hx hb dX1_look_146 (lv_at hl 2 rfl) ?_
              refine va_iald hx hb hK hH.1 46 1 (cwc46 C A u165) rfl (i_ix rfl (by omega) (by omega)) dX1_look_148 ?_
              refine pv_i (v := r163) (ga_el eu165) ?_
              refine lv_aload_n hx hb dX1_look_149 rfl (lv_at hl 4 rfl) ?_
              refine va_get (ci := 1) (v := .ref (A 45)) (C := RX1) (T := TX1) (N := 15) hx hb hts (fun w h => uc_in w (inX1 w h)) hown hK hH.1 12 (cwc12 C A u165) rfl 12 (by decide) (hts _ (uc_in _ q_f232)) (fun _ h9 => h9) rfl dX1_look_150 ?_
              refine lv_iload hx hb dX1_look_153 (lv_at hl 2 rfl) ?_
              refine va_iald hx hb hK hH.1 45 1 (cwc45 C A u165) rfl (i_ix rfl (by omega) (by omega)) dX1_look_155 ?_
              refine pv_i (v := y118d) ((congrFun (ga_ne eu165 (by decide)) _).trans (ga_el eu141)) ?_
              refine lv_icmp_ge (tgt := 171) hx hb dX1_look_156 (by decide) (fun c179 => ?_) (fun c179 => ?_)
              · have c179 := cLE (x := y118d) (y := r163) (X := y118d.toInt) (Y := r163.toInt) rfl rfl c179
                exact j171_175 ls y105d (by omega) (by omega) (lv_sub hl [2, 3, 4, 5, 6] rfl)
              · have c179 := cNLE (x := y118d) (y := r163) (X := y118d.toInt) (Y := r163.toInt) rfl rfl c179
                refine lv_iload_n hx hb dX1_look_159 rfl (lv_at hl 3 rfl) ?_
                refine lv_iconst (v := 1) hx hb dX1_look_160 (by decide) ?_
                refine lv_aload_n hx hb dX1_look_161 rfl (lv_at hl 4 rfl) ?_
                refine va_get (ci := 1) (v := .ref (A 44)) (C := RX1) (T := TX1) (N := 15) hx hb hts (fun w h => uc_in w (inX1 w h)) hown hK hH.1 12 (cwc12 C A u165) rfl 11 (by decide) (hts _ (uc_in _ q_f231)) (fun _ h9 => h9) rfl dX1_look_162 ?_
                refine lv_iload hx hb dX1_look_165 (lv_at hl 2 rfl) ?_
                refine va_iald hx hb hK hH.1 44 1 (cwc44 C A u165) rfl (i_ix rfl (by omega) (by omega)) dX1_look_167 ?_
                refine pv_i (v := r113) ((congrFun (ga_ne eu165 (by decide)) _).trans ((congrFun (ga_ne eu141 (by decide)) _).trans (ga_el eu115))) ?_
                refine lv_ishl hx hb dX1_look_168 ?_
                have gz180 := tt_shl1 (y := r113) (Y := r113.toInt) rfl (by omega) (by omega)
                refine p_bd (P := fun q => 1 ≤ q ∧ q ≤ 32) ⟨by omega, by omega⟩ (fun z181 bz181 => ?_)
                have bz181 : 1 ≤ z181.toInt ∧ z181.toInt ≤ 32 := bz181
                refine lv_ior hx hb dX1_look_169 ?_
                have gz182 := tt_or (x := y105d) (y := z181) (X := y105d.toInt) (Y := z181.toInt) rfl rfl 6 (by decide) (by omega) (by omega) (by omega) (by omega)
                refine p_bd (P := fun q => 0 ≤ q ∧ q ≤ 63) ⟨by omega, by omega⟩ (fun z183 bz183 => ?_)
                have bz183 : 0 ≤ z183.toInt ∧ z183.toInt ≤ 63 := bz183
                refine lv_istore_n (lv' := [(3, .int z183), (6, .int y148d), (5, .ref (A (52 + k111))), (4, .int y104d), (0, .ref (A 12)), (1, .int a0), (2, .int a1)]) hx hb dX1_look_170 rfl hl (by decide) rfl (fun ls hl => ?_)
                exact j171_175 ls z183 (by omega) (by omega) (lv_sub hl [3, 0, 4, 5, 6] rfl)
          refine lv_icmp_ne (tgt := 96) hx hb dX1_look_89 (by decide) (fun c142 => ?_) (fun c142 => ?_)
          · have c142 := cNE (x := r113) (y := (-1)) (X := r113.toInt) (Y := (-1)) rfl (by decide) c142
            refine lv_aload_n hx hb dX1_look_96 rfl (lv_at hl 3 rfl) ?_
            refine va_get (ci := 1) (v := .ref (A 43)) (C := RX1) (T := TX1) (N := 15) hx hb hts (fun w h => uc_in w (inX1 w h)) hown hK hH.1 12 (cwc12 C A u141) rfl 8 (by decide) (hts _ (uc_in _ q_f228)) (fun _ h9 => h9) rfl dX1_look_97 ?_
            refine lv_iload hx hb dX1_look_100 (lv_at hl 1 rfl) ?_
            refine va_iald hx hb hK hH.1 43 1 (cwc43 C A u141) rfl (i_ix rfl (by omega) (by omega)) dX1_look_102 ?_
            refine p_any (fun z184 => ?_)
            refine lv_iconst (v := 1) hx hb dX1_look_103 (by decide) ?_
            refine lv_aload_n hx hb dX1_look_104 rfl (lv_at hl 3 rfl) ?_
            refine va_get (ci := 1) (v := .ref (A 44)) (C := RX1) (T := TX1) (N := 15) hx hb hts (fun w h => uc_in w (inX1 w h)) hown hK hH.1 12 (cwc12 C A u141) rfl 11 (by decide) (hts _ (uc_in _ q_f231)) (fun _ h9 => h9) rfl dX1_look_105 ?_
            refine lv_iload hx hb dX1_look_108 (lv_at hl 1 rfl) ?_
            refine va_iald hx hb hK hH.1 44 1 (cwc44 C A u141) rfl (i_ix rfl (by omega) (by omega)) dX1_look_110 ?_
            refine pv_i (v := r113) ((congrFun (ga_ne eu141 (by decide)) _).trans (ga_el eu115)) ?_
            refine lv_ishl hx hb dX1_look_111 ?_
            have gz185 := tt_shl1 (y := r113) (Y := r113.toInt) rfl (by omega) (by omega)
            refine p_bd (P := fun q => 1 ≤ q ∧ q ≤ 32) ⟨by omega, by omega⟩ (fun z186 bz186 => ?_)
            have bz186 : 1 ≤ z186.toInt ∧ z186.toInt ≤ 32 := bz186
            refine lv_iconst (v := (-1)) hx hb dX1_look_112 (by decide) ?_
            refine lv_ixor hx hb dX1_look_113 ?_
            refine p_any (fun z187 => ?_)
            refine lv_iand hx hb dX1_look_114 ?_
            refine p_any (fun z188 => ?_)
            exact j115_161 ls z188 hl
          · have c142 := cEQ (x := r113) (y := (-1)) (X := r113.toInt) (Y := (-1)) rfl (by decide) c142
            refine lv_iconst (v := 0) hx hb dX1_look_92 (by decide) ?_
            refine lv_goto (tgt := 115) hx hb dX1_look_93 (by decide) ?_
            exact j115_161 ls 0 hl
        refine lv_icmp_ne (tgt := 70) hx hb dX1_look_63 (by decide) (fun c116 => ?_) (fun c116 => ?_)
        · have c116 := cNE (x := r113) (y := (-1)) (X := r113.toInt) (Y := (-1)) rfl (by decide) c116
          refine lv_aload hx hb dX1_look_70 (lv_at hl 0 rfl) ?_
          refine lv_aload_n hx hb dX1_look_72 rfl (lv_at hl 3 rfl) ?_
          refine va_get (ci := 1) (v := .ref (A 44)) (C := RX1) (T := TX1) (N := 15) hx hb hts (fun w h => uc_in w (inX1 w h)) hown hK hH.1 12 (cwc12 C A u115) rfl 11 (by decide) (hts _ (uc_in _ q_f231)) (fun _ h9 => h9) rfl dX1_look_73 ?_
          refine lv_iload hx hb dX1_look_76 (lv_at hl 1 rfl) ?_
          refine va_iald hx hb hK hH.1 44 1 (cwc44 C A u115) rfl (i_ix rfl (by omega) (by omega)) dX1_look_78 ?_
          refine pv_i (v := r113) (ga_el eu115) ?_
          refine va_iald hx hb hK hH.1 (52 + k111) 1 (cwp C A u115 k111 (by omega)) rfl (i_ix rfl (by omega) (by omega)) dX1_look_79 ?_
          refine p_any (fun z189 => ?_)
          exact j80_139 ls z189 hl
        · have c116 := cEQ (x := r113) (y := (-1)) (X := r113.toInt) (Y := (-1)) rfl (by decide) c116
          refine lv_iconst (v := 0) hx hb dX1_look_66 (by decide) ?_
          refine lv_goto (tgt := 80) hx hb dX1_look_67 (by decide) ?_
          exact j80_139 ls 0 hl
  exact lp10_106 8 ls z2 0 u _ _ (by have q9 := (show z2.toInt = (((gi u 61)).toInt - 1) from hz2); omega) (by have q9 := (show z2.toInt = (((gi u 61)).toInt - 1) from hz2); omega) (by decide) (by decide) (by have q9 := (show z2.toInt = (((gi u 61)).toInt - 1) from hz2); omega) Un.rf hI hH hl
set_option maxHeartbeats 4000000 in
set_option maxRecDepth 100000 in
theorem kX1_tollBy_0 (l : Launch) (D : va_G) (C : Nat → ClassId) (A : Nat → Nat) (u : St) (hI : IC u) (a0 : Int32) (A0 : Int) (ha0 : a0.toInt = A0) (a1 : Int32) (A1 : Int) (ha1 : a1.toInt = A1) (hl0 : 0 ≤ A0) (hm0 : A0 ≤ 6) (hl1 : 0 ≤ A1) (hm1 : A1 ≤ 5) : Met l yX1_tollBy (uc yX1_tollBy cX1_tollBy 7 (some .int)) (rmL 3 0 0) (va_Pc [.ref (A 12), .int a0, .int a1] (PreR D (tyl C) (cw C A u))) (vp_Si (fun r => True)) 0 0 (fun _ => False) := by
  refine mS (by decide) (Nat.le_of_ble_eq_true rfl) ?_
  intro p e s m below meth c ls ar Q hx hb hml hown hts hK hP hl hret
  have hown : s.vm.findClass RX1 = some m.cls := hown
  have hl : lv_has ls 7 [(0, .ref (A 12)), (1, .int a0), (2, .int a1)] := hl
  refine lv_iconst (v := 0) hx hb dX1_tollBy_0 (by decide) ?_
  refine lv_istore_n (lv' := [(3, .int 0), (0, .ref (A 12)), (1, .int a0), (2, .int a1)]) hx hb dX1_tollBy_1 rfl hl (by decide) rfl (fun ls hl => ?_)
  refine lv_iload_n hx hb dX1_tollBy_2 rfl (lv_at hl 2 rfl) ?_
  refine lv_istore (lv' := [(4, .int a0), (3, .int 0), (0, .ref (A 12)), (1, .int a0), (2, .int a1)]) hx hb dX1_tollBy_3 hl (by decide) rfl (fun ls hl => ?_)
  have lp5_51 : ∀ (n5 : Nat) (ls : Array Slot) (y50d : Int32) (y51d : Int32), 0 ≤ y50d.toInt → y50d.toInt ≤ 7 → 7 - y50d.toInt < (n5 : Int) → lv_has ls 7 [(4, .int y50d), (3, .int y51d), (0, .ref (A 12)), (1, .int a0), (2, .int a1)] → W p l e (rmL 3 0 0) s m ar below meth c s.heap [] 0 0 Q (F0 m 5 ls []) := by
    intro n5
    induction n5 with
    | zero => intro ls y50d y51d ly50d my50d hmun5 hl; exfalso; omega
    | succ n5 ih5_51 =>
      intro ls y50d y51d ly50d my50d hmun5 hl
      refine lv_iload hx hb dX1_tollBy_5 (lv_at hl 0 rfl) ?_
      refine lv_aload_n hx hb dX1_tollBy_7 rfl (lv_at hl 2 rfl) ?_
      refine va_get (ci := 1) (v := .int (gi u 61)) (C := RX1) (T := TX1) (N := 15) hx hb hts (fun w h => uc_in w (inX1 w h)) hown hK hP 12 (cwc12 C A u) rfl 3 (by decide) (hts _ (uc_in _ q_f223)) (fun _ h9 => h9) rfl dX1_tollBy_8 ?_
      have b53 := hI.b61
      refine lv_icmp_ge (tgt := 98) hx hb dX1_tollBy_11 (by decide) (fun c54 => ?_) (fun c54 => ?_)
      · have c54 := cLE (x := (gi u 61)) (y := y50d) (X := ((gi u 61)).toInt) (Y := y50d.toInt) rfl rfl c54
        refine lv_iload_n hx hb dX1_tollBy_98 rfl (lv_at hl 1 rfl) ?_
        exact hret _ _ y51d dX1_tollBy_99 rfl trivial
      · have c54 := cNLE (x := (gi u 61)) (y := y50d) (X := ((gi u 61)).toInt) (Y := y50d.toInt) rfl rfl c54
        refine lv_aload_n hx hb dX1_tollBy_14 rfl (lv_at hl 2 rfl) ?_
        refine va_get (ci := 1) (v := .ref (A 45)) (C := RX1) (T := TX1) (N := 15) hx hb hts (fun w h => uc_in w (inX1 w h)) hown hK hP 12 (cwc12 C A u) rfl 12 (by decide) (hts _ (uc_in _ q_f232)) (fun _ h9 => h9) rfl dX1_tollBy_15 ?_
        refine lv_iload hx hb dX1_tollBy_18 (lv_at hl 0 rfl) ?_
        refine va_iald hx hb hK hP 45 1 (cwc45 C A u) rfl (i_ix rfl (by omega) (by omega)) dX1_tollBy_20 ?_
        refine p_any (fun z55 => ?_)
        refine lv_istore (lv' := [(5, .int z55), (4, .int y50d), (3, .int y51d), (0, .ref (A 12)), (1, .int a0), (2, .int a1)]) hx hb dX1_tollBy_21 hl (by decide) rfl (fun ls hl => ?_)
        refine lv_aload_n hx hb dX1_tollBy_23 rfl (lv_at hl 3 rfl) ?_
        refine va_get (ci := 1) (v := .ref (A 43)) (C := RX1) (T := TX1) (N := 15) hx hb hts (fun w h => uc_in w (inX1 w h)) hown hK hP 12 (cwc12 C A u) rfl 8 (by decide) (hts _ (uc_in _ q_f228)) (fun _ h9 => h9) rfl dX1_tollBy_24 ?_
        refine lv_iload hx hb dX1_tollBy_27 (lv_at hl 1 rfl) ?_
        refine va_iald hx hb hK hP 43 1 (cwc43 C A u) rfl (i_ix rfl (by omega) (by omega)) dX1_tollBy_29 ?_
        refine p_any (fun z56 => ?_)
        refine lv_iload_n hx hb dX1_tollBy_30 rfl (lv_at hl 5 rfl) ?_
        refine csS (n := 2) (As := [.int z56, .int a1]) (rest := []) ⟨hx, hb, hml, hown, hts⟩ uc_in (kX5_has_0 l D C A u hI z56 z56.toInt rfl a1 A1 ha1) q_m853 q_s641 q_i4 q_c642 hvX5_has ⟨(Nat.le_of_ble_eq_true rfl), (Nat.le_of_ble_eq_true rfl)⟩ ⟨(Nat.le_of_ble_eq_true rfl), (Nat.le_of_ble_eq_true rfl)⟩ hK hP rfl hl.1 rfl (Nat.le_of_ble_eq_true rfl) dX1_tollBy_31 (fun r57 p58 => ?_)
        have p58 : 0 ≤ r57.toInt ∧ r57.toInt ≤ 1 := p58
        have j83_74 : ∀ (ls : Array Slot) (y69d : Int32), lv_has ls 7 [(5, .int y69d), (4, .int y50d), (3, .int y51d), (0, .ref (A 12)), (1, .int a0), (2, .int a1)] → W p l e (rmL 3 0 0) s m ar below meth c s.heap [] 0 0 Q (F0 m 83 ls []) := by
          intro ls y69d hl
          refine lv_iload_n hx hb dX1_tollBy_83 rfl (lv_at hl 2 rfl) ?_
          refine lv_aload_n hx hb dX1_tollBy_84 rfl (lv_at hl 3 rfl) ?_
          refine lv_iload hx hb dX1_tollBy_85 (lv_at hl 0 rfl) ?_
          refine cvS (n := 1) (As := [.int y69d]) (rest := [.int y51d]) ⟨hx, hb, hml, hown, hts⟩ uc_in (kX1_tollOf_0 l D C A u hI y69d y69d.toInt rfl) q_m835 q_n837 q_p27 q_i6 q_c838 hvX1_tollOf ⟨(Nat.le_of_ble_eq_true rfl), (Nat.le_of_ble_eq_true rfl)⟩ ⟨(Nat.le_of_ble_eq_true rfl), (Nat.le_of_ble_eq_true rfl)⟩ hK hP 1 12 rfl (cwc12 C A u) rfl hl.1 rfl (Nat.le_of_ble_eq_true rfl) dX1_tollBy_87 (fun r76 p77 => ?_)
          refine lv_iadd hx hb dX1_tollBy_90 ?_
          refine p_any (fun z78 => ?_)
          refine lv_istore_n (lv' := [(3, .int z78), (5, .int y69d), (4, .int y50d), (0, .ref (A 12)), (1, .int a0), (2, .int a1)]) hx hb dX1_tollBy_91 rfl hl (by decide) rfl (fun ls hl => ?_)
          obtain ⟨z79, ez79⟩ : ∃ z, z = y50d + Int32.ofInt 1 := ⟨_, rfl⟩
          have hz79 : z79.toInt = y50d.toInt + 1 := by rw [ez79]; exact tt_add rfl (by decide) (by omega) (by omega)
          refine lv_iinc (v := z79) (lv' := [(4, .int z79), (3, .int z78), (5, .int y69d), (0, .ref (A 12)), (1, .int a0), (2, .int a1)]) hx hb dX1_tollBy_92 hl (k := 2) rfl ez79.symm (by decide) rfl (fun ls hl => ?_)
          refine lv_goto (tgt := 5) hx hb dX1_tollBy_95 (by decide) ?_
          exact ih5_51 ls z79 z78 (by have q9 := (show z79.toInt = (y50d.toInt + 1) from hz79); omega) (by have q9 := (show z79.toInt = (y50d.toInt + 1) from hz79); omega) (by have q9 := (show z79.toInt = (y50d.toInt + 1) from hz79); omega) (lv_sub hl [0, 1, 3, 4, 5] rfl)
        refine lv_if_eq (tgt := 83) hx hb dX1_tollBy_34 (by decide) (fun c59 => ?_) (fun c59 => ?_)
        · have c59 := cEQ (x := r57) (y := 0) (X := r57.toInt) (Y := 0) rfl (by decide) c59
          exact j83_74 ls z55 hl
        · have c59 := cNE (x := r57) (y := 0) (X := r57.toInt) (Y := 0) rfl (by decide) c59
          refine lv_aload_n hx hb dX1_tollBy_37 rfl (lv_at hl 3 rfl) ?_
          refine va_get (ci := 1) (v := .ref (A 44)) (C := RX1) (T := TX1) (N := 15) hx hb hts (fun w h => uc_in w (inX1 w h)) hown hK hP 12 (cwc12 C A u) rfl 11 (by decide) (hts _ (uc_in _ q_f231)) (fun _ h9 => h9) rfl dX1_tollBy_38 ?_
          refine lv_iload hx hb dX1_tollBy_41 (lv_at hl 1 rfl) ?_
          refine va_iald hx hb hK hP 44 1 (cwc44 C A u) rfl (i_ix rfl (by omega) (by omega)) dX1_tollBy_43 ?_
          refine p_any (fun z80 => ?_)
          refine lv_iload_n hx hb dX1_tollBy_44 rfl (lv_at hl 5 rfl) ?_
          have j60_89 : ∀ (ls : Array Slot) (y83d : Int32), lv_has ls 7 [(4, .int y50d), (3, .int y51d), (0, .ref (A 12)), (1, .int a0), (2, .int a1)] → W p l e (rmL 3 0 0) s m ar below meth c s.heap [] 0 0 Q (F0 m 60 ls [.int y83d]) := by
            intro ls y83d hl
            refine lv_istore (lv' := [(6, .int y83d), (4, .int y50d), (3, .int y51d), (0, .ref (A 12)), (1, .int a0), (2, .int a1)]) hx hb dX1_tollBy_60 hl (by decide) rfl (fun ls hl => ?_)
            refine lv_iload hx hb dX1_tollBy_62 (lv_at hl 0 rfl) ?_
            refine lv_aload_n hx hb dX1_tollBy_64 rfl (lv_at hl 3 rfl) ?_
            refine va_get (ci := 1) (v := .ref (A 20)) (C := RX1) (T := TX1) (N := 15) hx hb hts (fun w h => uc_in w (inX1 w h)) hown hK hP 12 (cwc12 C A u) rfl 9 (by decide) (hts _ (uc_in _ q_f229)) (fun _ h9 => h9) rfl dX1_tollBy_65 ?_
            refine lv_iload_n hx hb dX1_tollBy_68 rfl (lv_at hl 4 rfl) ?_
            refine lv_bipush (v := 7) hx hb dX1_tollBy_69 (by decide) ?_
            refine lv_imul hx hb dX1_tollBy_71 ?_
            refine p_nm (tt_mul (X := A0) (Y := 7) ha0 (by decide) (by omega) (by omega)) (fun z91 hz91 => ?_)
            refine lv_iload hx hb dX1_tollBy_72 (lv_at hl 1 rfl) ?_
            refine lv_iadd hx hb dX1_tollBy_74 ?_
            refine p_nm (tt_add (X := (A0 * 7)) (Y := y50d.toInt) hz91 rfl (by omega) (by omega)) (fun z92 hz92 => ?_)
            refine r_aald hx hb hK hP 20 6 rfl (cwc20 C A u) rfl (i_ix hz92 (by omega) (by omega)) dX1_tollBy_75 ?_
            obtain ⟨k93, hk93, ek93⟩ : ∃ k : Nat, (k : Int) = 39 + ((A0 * 7) + y50d.toInt) ∧ k = 39 + Int32.toNatClampNeg z92 := ⟨_, by have q9 := i_cl (x := z92) (X := ((A0 * 7) + y50d.toInt)) hz92 (by omega); omega, rfl⟩
            refine pv_v (v := .ref (A (52 + k93))) (by rw [ek93]; rfl) ?_
            refine lv_iload_n hx hb dX1_tollBy_76 rfl (lv_at hl 5 rfl) ?_
            refine va_iald hx hb hK hP (52 + k93) 1 (cwp C A u k93 (by omega)) rfl (i_ix ha1 (by omega) (by omega)) dX1_tollBy_77 ?_
            refine p_any (fun z94 => ?_)
            refine va_mmax hx hb (by rw [hml]; exact hl.1.symm) hown (hts _ (uc_in _ q_m858)) (hts _ (uc_in _ q_s571)) (hts _ (uc_in _ q_i12)) (hts _ (uc_in _ q_c572)) (Nat.le_of_ble_eq_true rfl) (Nat.le_of_ble_eq_true rfl) (Nat.le_of_ble_eq_true rfl) (Nat.le_of_ble_eq_true rfl) dX1_tollBy_78 ?_
            refine p_any (fun z95 => ?_)
            refine lv_istore (lv' := [(5, .int z95), (6, .int y83d), (4, .int y50d), (3, .int y51d), (0, .ref (A 12)), (1, .int a0), (2, .int a1)]) hx hb dX1_tollBy_81 hl (by decide) rfl (fun ls hl => ?_)
            exact j83_74 ls z95 (lv_sub hl [0, 2, 3, 4, 5, 6] rfl)
          refine lv_icmp_ne (tgt := 58) hx hb dX1_tollBy_45 (by decide) (fun c81 => ?_) (fun c81 => ?_)
          · refine lv_iload hx hb dX1_tollBy_58 (lv_at hl 0 rfl) ?_
            exact j60_89 ls z55 (lv_sub hl [1, 2, 3, 4, 5] rfl)
          · have c81 := cEQ (x := z80) (y := a1) (X := z80.toInt) (Y := A1) rfl ha1 c81
            refine lv_aload_n hx hb dX1_tollBy_48 rfl (lv_at hl 3 rfl) ?_
            refine va_get (ci := 1) (v := .ref (A 46)) (C := RX1) (T := TX1) (N := 15) hx hb hts (fun w h => uc_in w (inX1 w h)) hown hK hP 12 (cwc12 C A u) rfl 13 (by decide) (hts _ (uc_in _ q_f233)) (fun _ h9 => h9) rfl dX1_tollBy_49 ?_
            refine lv_iload hx hb dX1_tollBy_52 (lv_at hl 1 rfl) ?_
            refine va_iald hx hb hK hP 46 1 (cwc46 C A u) rfl (i_ix rfl (by omega) (by omega)) dX1_tollBy_54 ?_
            refine p_any (fun z96 => ?_)
            refine lv_goto (tgt := 60) hx hb dX1_tollBy_55 (by decide) ?_
            exact j60_89 ls z96 (lv_sub hl [1, 2, 3, 4, 5] rfl)
  exact lp5_51 8 ls a0 0 (by have q9 := (show a0.toInt = A0 from ha0); omega) (by have q9 := (show a0.toInt = A0 from ha0); omega) (by have q9 := (show a0.toInt = A0 from ha0); omega) hl
set_option maxHeartbeats 4000000 in
set_option maxRecDepth 100000 in
theorem kX1_keep_0 (l : Launch) (D : va_G) (C : Nat → ClassId) (A : Nat → Nat) (u : St) (hI : IC u) (a0 : Int32) (A0 : Int) (ha0 : a0.toInt = A0) (a1 : Int32) (A1 : Int) (ha1 : a1.toInt = A1) (sz : Nat) : MetV l yX1_keep cX1_keep 3 1 [.ref (A 12), .int a0, .int a1] D (tyl C) (cw C A) X0 u sz (fun u' => IC u' ∧ Un [(58, 58), (59, 59), (60, 60)] [] [] u u' ∧ True) := by
  refine mV (by decide) (Nat.le_of_ble_eq_true rfl) ?_
  intro p e s m below meth c ls ar Q hx hb hml hown hts hK hH hX hl hret
  have hown : s.vm.findClass RX1 = some m.cls := hown
  have hl : lv_has ls 3 [(0, .ref (A 12)), (1, .int a0), (2, .int a1)] := hl
  refine lv_iload_n hx hb dX1_keep_0 rfl (lv_at hl 2 rfl) ?_
  refine lv_aload_n hx hb dX1_keep_1 rfl (lv_at hl 0 rfl) ?_
  refine va_get (ci := 1) (v := .int (gi u 58)) (C := RX1) (T := TX1) (N := 15) hx hb hts (fun w h => uc_in w (inX1 w h)) hown hK hH.1 12 (cwc12 C A u) rfl 0 (by decide) (hts _ (uc_in _ q_f217)) (fun _ h9 => h9) rfl dX1_keep_2 ?_
  refine lv_icmp_ge (tgt := 26) hx hb dX1_keep_5 (by decide) (fun c1 => ?_) (fun c1 => ?_)
  · have c1 := cLE (x := (gi u 58)) (y := a1) (X := ((gi u 58)).toInt) (Y := A1) rfl ha1 c1
    exact hret _ _ _ _ _ dX1_keep_26 ⟨hI, Un.rf, trivial⟩ hH
  · have c1 := cNLE (x := (gi u 58)) (y := a1) (X := ((gi u 58)).toInt) (Y := A1) rfl ha1 c1
    refine lv_aload_n hx hb dX1_keep_8 rfl (lv_at hl 0 rfl) ?_
    refine lv_iload_n hx hb dX1_keep_9 rfl (lv_at hl 2 rfl) ?_
    refine r_put (j := 58) (ci := 1) (C := RX1) (T := TX1) (N := 15) hx hb hts (fun w h => uc_in w (inX1 w h)) tyX1 tyX1_ok nmX1 hown hK hH 12 (cwc12 C A u) rfl 0 (by decide) (hts _ (uc_in _ q_f217)) (fun _ h9 => h9) rfl (by decide +kernel) (Nat.le_of_ble_eq_true rfl) (cws58 C A u _) dX1_keep_10 (fun u2 eu2 H locs hH => ?_)
    have hI := hI.pi0 eu2 rfl (by decide) (by decide)
    refine lv_aload_n hx hb dX1_keep_13 rfl (lv_at hl 0 rfl) ?_
    refine lv_iload_n hx hb dX1_keep_14 rfl (lv_at hl 1 rfl) ?_
    refine r_put (j := 59) (ci := 1) (C := RX1) (T := TX1) (N := 15) hx hb hts (fun w h => uc_in w (inX1 w h)) tyX1 tyX1_ok nmX1 hown hK hH 12 (cwc12 C A u2) rfl 1 (by decide) (hts _ (uc_in _ q_f219)) (fun _ h9 => h9) rfl (by decide +kernel) (Nat.le_of_ble_eq_true rfl) (cws59 C A u2 _) dX1_keep_15 (fun u3 eu3 H locs hH => ?_)
    have hI := hI.pi0 eu3 rfl (by decide) (by decide)
    refine lv_aload_n hx hb dX1_keep_18 rfl (lv_at hl 0 rfl) ?_
    refine lv_aload_n hx hb dX1_keep_19 rfl (lv_at hl 0 rfl) ?_
    refine va_get (ci := 1) (v := .int (gi u3 65)) (C := RX1) (T := TX1) (N := 15) hx hb hts (fun w h => uc_in w (inX1 w h)) hown hK hH.1 12 (cwc12 C A u3) rfl 7 (by decide) (hts _ (uc_in _ q_f227)) (fun _ h9 => h9) rfl dX1_keep_20 ?_
    refine r_put (j := 60) (ci := 1) (C := RX1) (T := TX1) (N := 15) hx hb hts (fun w h => uc_in w (inX1 w h)) tyX1 tyX1_ok nmX1 hown hK hH 12 (cwc12 C A u3) rfl 2 (by decide) (hts _ (uc_in _ q_f221)) (fun _ h9 => h9) rfl (by decide +kernel) (Nat.le_of_ble_eq_true rfl) (cws60 C A u3 _) dX1_keep_23 (fun u4 eu4 H locs hH => ?_)
    have hI := hI.pi0 eu4 rfl (by decide) (by decide)
    exact hret _ _ _ _ _ dX1_keep_26 ⟨hI, (Un.si (Un.si (Un.si Un.rf rfl eu2) rfl eu3) rfl eu4), trivial⟩ hH
set_option maxHeartbeats 4000000 in
set_option maxRecDepth 100000 in
theorem kX1_seekLast_0 (l : Launch) (D : va_G) (C : Nat → ClassId) (A : Nat → Nat) (u : St) (hI : IC u) (a0 : Int32) (A0 : Int) (ha0 : a0.toInt = A0) (a1 : Int32) (A1 : Int) (ha1 : a1.toInt = A1) (a2 : Int32) (A2 : Int) (ha2 : a2.toInt = A2) (hl0 : 0 ≤ A0) (hm0 : A0 ≤ 2) (hl1 : 0 ≤ A1) (hm1 : A1 ≤ 66) (sz : Nat) : MetV l yX1_seekLast cX1_seekLast 8 4 [.ref (A 12), .int a0, .int a1, .int a2] D (tyl C) (cw C A) X0 u sz (fun u' => IC u' ∧ Un [(58, 58), (59, 59), (60, 60), (65, 65)] [(44, 44), (45, 45), (46, 46), (47, 47)] [] u u' ∧ True) := by
  refine mV (by decide) (Nat.le_of_ble_eq_true rfl) ?_
  intro p e s m below meth c ls ar Q hx hb hml hown hts hK hH hX hl hret
  have hown : s.vm.findClass RX1 = some m.cls := hown
  have hl : lv_has ls 8 [(0, .ref (A 12)), (1, .int a0), (2, .int a1), (3, .int a2)] := hl
  refine lv_aload_n hx hb dX1_seekLast_0 rfl (lv_at hl 0 rfl) ?_
  refine lv_iload_n hx hb dX1_seekLast_1 rfl (lv_at hl 1 rfl) ?_
  refine lv_iload_n hx hb dX1_seekLast_2 rfl (lv_at hl 2 rfl) ?_
  refine lv_bipush (v := 10) hx hb dX1_seekLast_3 (by decide) ?_
  refine lv_idiv hx hb dX1_seekLast_5 (by decide) ?_
  refine p_nm (tt_div 10 ha1 (by decide) (by omega) (by decide)) (fun z1 hz1 => ?_)
  refine cvU (n := 2) (As := [.int a0, .int z1]) (rest := []) ⟨hx, hb, hml, hown, hts⟩ uc_in (kX1_look_0 l D C A u hI a0 A0 ha0 z1 (A1 / 10) hz1 (by omega) (by omega) (by omega) (by omega) _) q_m848 q_n850 q_p30 q_i6 q_c851 hvX1_look ⟨(Nat.le_of_ble_eq_true rfl), (Nat.le_of_ble_eq_true rfl)⟩ ⟨(Nat.le_of_ble_eq_true rfl), (Nat.le_of_ble_eq_true rfl)⟩ hK hH (fun q h => Or.inr h) Bl0 (fun _ _ _ => trivial) 1 12 rfl (cwc12 C A u) rfl hl.1 rfl (Nat.le_of_ble_eq_true rfl) dX1_seekLast_6 (fun u2 H locs p4 hH => ?_)
  obtain ⟨hI, hUu2, p4⟩ := p4
  refine lv_iload_n hx hb dX1_seekLast_9 rfl (lv_at hl 3 rfl) ?_
  refine lv_istore (lv' := [(4, .int a2), (0, .ref (A 12)), (1, .int a0), (2, .int a1), (3, .int a2)]) hx hb dX1_seekLast_10 hl (by decide) rfl (fun ls hl => ?_)
  refine lv_iload_n hx hb dX1_seekLast_12 rfl (lv_at hl 3 rfl) ?_
  refine lv_bipush (v := 10) hx hb dX1_seekLast_13 (by decide) ?_
  refine lv_idiv hx hb dX1_seekLast_15 (by decide) ?_
  refine p_nm (tt_div 10 ha1 (by decide) (by omega) (by decide)) (fun z5 hz5 => ?_)
  refine lv_istore (lv' := [(5, .int z5), (4, .int a2), (0, .ref (A 12)), (1, .int a0), (2, .int a1), (3, .int a2)]) hx hb dX1_seekLast_16 hl (by decide) rfl (fun ls hl => ?_)
  have lp18_1012 : ∀ (n18 : Nat) (ls : Array Slot) (y1010d : Int32) (y1011d : Int32) (u1012 : St) (H : Heap) (locs : List Loc), 0 ≤ y1010d.toInt → y1010d.toInt ≤ 7 → 7 - y1010d.toInt < (n18 : Int) → Un [(58, 58), (59, 59), (60, 60), (65, 65)] [] [] u2 u1012 → IC u1012 → Hd D (cw C A) (va_A (cw C A u) s.heap.size) s.heap u1012 H locs → lv_has ls 8 [(5, .int y1010d), (4, .int y1011d), (0, .ref (A 12)), (1, .int a0), (2, .int a1)] → W p l e (rmL 4 0 0) s m ar below meth c H locs 0 0 Q (F0 m 18 ls []) := by
    intro n18
    induction n18 with
    | zero => intro ls y1010d y1011d u1012 H locs ly1010d my1010d hmun18 hUu1012 hI hH hl; exfalso; omega
    | succ n18 ih18_1012 =>
      intro ls y1010d y1011d u1012 H locs ly1010d my1010d hmun18 hUu1012 hI hH hl
      refine lv_iload hx hb dX1_seekLast_18 (lv_at hl 0 rfl) ?_
      refine lv_aload_n hx hb dX1_seekLast_20 rfl (lv_at hl 2 rfl) ?_
      refine va_get (ci := 1) (v := .int (gi u1012 61)) (C := RX1) (T := TX1) (N := 15) hx hb hts (fun w h => uc_in w (inX1 w h)) hown hK hH.1 12 (cwc12 C A u1012) rfl 3 (by decide) (hts _ (uc_in _ q_f223)) (fun _ h9 => h9) rfl dX1_seekLast_21 ?_
      have b1014 := hI.b61
      refine lv_icmp_ge (tgt := 142) hx hb dX1_seekLast_24 (by decide) (fun c1015 => ?_) (fun c1015 => ?_)
      · have c1015 := cLE (x := (gi u1012 61)) (y := y1010d) (X := ((gi u1012 61)).toInt) (Y := y1010d.toInt) rfl rfl c1015
        exact hret _ _ _ _ _ dX1_seekLast_142 ⟨hI, (Un.tr (Un.tr Un.rf hUu2 rfl rfl rfl) hUu1012 rfl rfl rfl), trivial⟩ hH
      · have c1015 := cNLE (x := (gi u1012 61)) (y := y1010d) (X := ((gi u1012 61)).toInt) (Y := y1010d.toInt) rfl rfl c1015
        refine lv_iload hx hb dX1_seekLast_27 (lv_at hl 1 rfl) ?_
        refine lv_aload_n hx hb dX1_seekLast_29 rfl (lv_at hl 2 rfl) ?_
        refine va_get (ci := 1) (v := .int (gi u1012 58)) (C := RX1) (T := TX1) (N := 15) hx hb hts (fun w h => uc_in w (inX1 w h)) hown hK hH.1 12 (cwc12 C A u1012) rfl 0 (by decide) (hts _ (uc_in _ q_f217)) (fun _ h9 => h9) rfl dX1_seekLast_30 ?_
        refine lv_icmp_ge (tgt := 142) hx hb dX1_seekLast_33 (by decide) (fun c1016 => ?_) (fun c1016 => ?_)
        · have c1016 := cLE (x := (gi u1012 58)) (y := y1011d) (X := ((gi u1012 58)).toInt) (Y := y1011d.toInt) rfl rfl c1016
          exact hret _ _ _ _ _ dX1_seekLast_142 ⟨hI, (Un.tr (Un.tr Un.rf hUu2 rfl rfl rfl) hUu1012 rfl rfl rfl), trivial⟩ hH
        · have c1016 := cNLE (x := (gi u1012 58)) (y := y1011d) (X := ((gi u1012 58)).toInt) (Y := y1011d.toInt) rfl rfl c1016
          refine lv_iconst (v := 0) hx hb dX1_seekLast_36 (by decide) ?_
          refine lv_istore (lv' := [(6, .int 0), (5, .int y1010d), (4, .int y1011d), (0, .ref (A 12)), (1, .int a0), (2, .int a1)]) hx hb dX1_seekLast_37 hl (by decide) rfl (fun ls hl => ?_)
          have lp39_1320 : ∀ (n39 : Nat) (ls : Array Slot) (y1319d : Int32) (u1320 : St) (H : Heap) (locs : List Loc), 0 ≤ y1319d.toInt → y1319d.toInt ≤ 6 → 6 - y1319d.toInt < (n39 : Int) → Un [(58, 58), (59, 59), (60, 60), (65, 65)] [] [] u1012 u1320 → IC u1320 → Hd D (cw C A) (va_A (cw C A u) s.heap.size) s.heap u1320 H locs → lv_has ls 8 [(6, .int y1319d), (5, .int y1010d), (4, .int y1011d), (0, .ref (A 12)), (1, .int a0), (2, .int a1)] → W p l e (rmL 4 0 0) s m ar below meth c H locs 0 0 Q (F0 m 39 ls []) := by
            intro n39
            induction n39 with
            | zero => intro ls y1319d u1320 H locs ly1319d my1319d hmun39 hUu1320 hI hH hl; exfalso; omega
            | succ n39 ih39_1320 =>
              intro ls y1319d u1320 H locs ly1319d my1319d hmun39 hUu1320 hI hH hl
              refine lv_iload hx hb dX1_seekLast_39 (lv_at hl 0 rfl) ?_
              refine lv_aload_n hx hb dX1_seekLast_41 rfl (lv_at hl 3 rfl) ?_
              refine va_get (ci := 1) (v := .int (gi u1320 62)) (C := RX1) (T := TX1) (N := 15) hx hb hts (fun w h => uc_in w (inX1 w h)) hown hK hH.1 12 (cwc12 C A u1320) rfl 4 (by decide) (hts _ (uc_in _ q_f224)) (fun _ h9 => h9) rfl dX1_seekLast_42 ?_
              have b1322 := hI.b62
              refine lv_icmp_ge (tgt := 120) hx hb dX1_seekLast_45 (by decide) (fun c1323 => ?_) (fun c1323 => ?_)
              · have c1323 := cLE (x := (gi u1320 62)) (y := y1319d) (X := ((gi u1320 62)).toInt) (Y := y1319d.toInt) rfl rfl c1323
                refine lv_iload hx hb dX1_seekLast_120 (lv_at hl 2 rfl) ?_
                refine lv_aload_n hx hb dX1_seekLast_122 rfl (lv_at hl 3 rfl) ?_
                refine lv_aload_n hx hb dX1_seekLast_123 rfl (lv_at hl 3 rfl) ?_
                refine va_get (ci := 1) (v := .ref (A 45)) (C := RX1) (T := TX1) (N := 15) hx hb hts (fun w h => uc_in w (inX1 w h)) hown hK hH.1 12 (cwc12 C A u1320) rfl 12 (by decide) (hts _ (uc_in _ q_f232)) (fun _ h9 => h9) rfl dX1_seekLast_124 ?_
                refine lv_iload hx hb dX1_seekLast_127 (lv_at hl 1 rfl) ?_
                refine va_iald hx hb hK hH.1 45 1 (cwc45 C A u1320) rfl (i_ix rfl (by omega) (by omega)) dX1_seekLast_129 ?_
                refine p_any (fun z1324 => ?_)
                refine cvS (n := 1) (As := [.int z1324]) (rest := [.int y1011d]) ⟨hx, hb, hml, hown, hts⟩ uc_in (kX1_tollOf_0 l D C A u1320 hI z1324 z1324.toInt rfl) q_m835 q_n837 q_p27 q_i6 q_c838 hvX1_tollOf ⟨(Nat.le_of_ble_eq_true rfl), (Nat.le_of_ble_eq_true rfl)⟩ ⟨(Nat.le_of_ble_eq_true rfl), (Nat.le_of_ble_eq_true rfl)⟩ hK hH.1 1 12 rfl (cwc12 C A u1320) rfl hl.1 rfl (Nat.le_of_ble_eq_true rfl) dX1_seekLast_130 (fun r1325 p1326 => ?_)
                refine lv_iadd hx hb dX1_seekLast_133 ?_
                refine p_any (fun z1327 => ?_)
                refine lv_istore (lv' := [(4, .int z1327), (6, .int y1319d), (5, .int y1010d), (0, .ref (A 12)), (1, .int a0), (2, .int a1)]) hx hb dX1_seekLast_134 hl (by decide) rfl (fun ls hl => ?_)
                obtain ⟨z1328, ez1328⟩ : ∃ z, z = y1010d + Int32.ofInt 1 := ⟨_, rfl⟩
                have hz1328 : z1328.toInt = y1010d.toInt + 1 := by rw [ez1328]; exact tt_add rfl (by decide) (by omega) (by omega)
                refine lv_iinc (v := z1328) (lv' := [(5, .int z1328), (4, .int z1327), (6, .int y1319d), (0, .ref (A 12)), (1, .int a0), (2, .int a1)]) hx hb dX1_seekLast_136 hl (k := 2) rfl ez1328.symm (by decide) rfl (fun ls hl => ?_)
                refine lv_goto (tgt := 18) hx hb dX1_seekLast_139 (by decide) ?_
                exact ih18_1012 ls z1328 z1327 u1320 _ _ (by have q9 := (show z1328.toInt = (y1010d.toInt + 1) from hz1328); omega) (by have q9 := (show z1328.toInt = (y1010d.toInt + 1) from hz1328); omega) (by have q9 := (show z1328.toInt = (y1010d.toInt + 1) from hz1328); omega) (Un.tr hUu1012 hUu1320 rfl rfl rfl) hI hH (lv_sub hl [0, 1, 3, 4, 5] rfl)
              · have c1323 := cNLE (x := (gi u1320 62)) (y := y1319d) (X := ((gi u1320 62)).toInt) (Y := y1319d.toInt) rfl rfl c1323
                refine lv_bipush (v := 10) hx hb dX1_seekLast_48 (by decide) ?_
                refine lv_iload hx hb dX1_seekLast_50 (lv_at hl 1 rfl) ?_
                refine lv_imul hx hb dX1_seekLast_52 ?_
                refine p_nm (tt_mul (X := 10) (Y := y1010d.toInt) (by decide) rfl (by omega) (by omega)) (fun z1329 hz1329 => ?_)
                refine lv_iload hx hb dX1_seekLast_53 (lv_at hl 0 rfl) ?_
                refine lv_iadd hx hb dX1_seekLast_55 ?_
                refine p_nm (tt_add (X := (10 * y1010d.toInt)) (Y := y1319d.toInt) hz1329 rfl (by omega) (by omega)) (fun z1330 hz1330 => ?_)
                refine lv_istore (lv' := [(7, .int z1330), (6, .int y1319d), (5, .int y1010d), (4, .int y1011d), (0, .ref (A 12)), (1, .int a0), (2, .int a1)]) hx hb dX1_seekLast_56 hl (by decide) rfl (fun ls hl => ?_)
                refine lv_iload hx hb dX1_seekLast_58 (lv_at hl 0 rfl) ?_
                refine lv_iload_n hx hb dX1_seekLast_60 rfl (lv_at hl 6 rfl) ?_
                have j114_1349 : ∀ (ls : Array Slot) (u1349 : St) (H : Heap) (locs : List Loc), Un [(58, 58), (59, 59), (60, 60), (65, 65)] [] [] u1320 u1349 → IC u1349 → Hd D (cw C A) (va_A (cw C A u) s.heap.size) s.heap u1349 H locs → lv_has ls 8 [(6, .int y1319d), (5, .int y1010d), (4, .int y1011d), (0, .ref (A 12)), (1, .int a0), (2, .int a1)] → W p l e (rmL 4 0 0) s m ar below meth c H locs 0 0 Q (F0 m 114 ls []) := by
                  intro ls u1349 H locs hUu1349 hI hH hl
                  obtain ⟨z1351, ez1351⟩ : ∃ z, z = y1319d + Int32.ofInt 1 := ⟨_, rfl⟩
                  have hz1351 : z1351.toInt = y1319d.toInt + 1 := by rw [ez1351]; exact tt_add rfl (by decide) (by omega) (by omega)
                  refine lv_iinc (v := z1351) (lv' := [(6, .int z1351), (5, .int y1010d), (4, .int y1011d), (0, .ref (A 12)), (1, .int a0), (2, .int a1)]) hx hb dX1_seekLast_114 hl (k := 0) rfl ez1351.symm (by decide) rfl (fun ls hl => ?_)
                  refine lv_goto (tgt := 39) hx hb dX1_seekLast_117 (by decide) ?_
                  exact ih39_1320 ls z1351 u1349 _ _ (by have q9 := (show z1351.toInt = (y1319d.toInt + 1) from hz1351); omega) (by have q9 := (show z1351.toInt = (y1319d.toInt + 1) from hz1351); omega) (by have q9 := (show z1351.toInt = (y1319d.toInt + 1) from hz1351); omega) (Un.tr hUu1320 hUu1349 rfl rfl rfl) hI hH hl
                refine lv_icmp_lt (tgt := 114) hx hb dX1_seekLast_61 (by decide) (fun c1331 => ?_) (fun c1331 => ?_)
                · have c1331 := cLT (x := z1330) (y := a1) (X := ((10 * y1010d.toInt) + y1319d.toInt)) (Y := A1) hz1330 ha1 c1331
                  exact j114_1349 ls u1320 _ _ Un.rf hI hH (lv_sub hl [1, 2, 3, 4, 5, 6] rfl)
                · have c1331 := cNLT (x := z1330) (y := a1) (X := ((10 * y1010d.toInt) + y1319d.toInt)) (Y := A1) hz1330 ha1 c1331
                  refine lv_aload_n hx hb dX1_seekLast_64 rfl (lv_at hl 4 rfl) ?_
                  refine va_get (ci := 1) (v := .ref (A 47)) (C := RX1) (T := TX1) (N := 15) hx hb hts (fun w h => uc_in w (inX1 w h)) hown hK hH.1 12 (cwc12 C A u1320) rfl 14 (by decide) (hts _ (uc_in _ q_f234)) (fun _ h9 => h9) rfl dX1_seekLast_65 ?_
                  refine lv_iload hx hb dX1_seekLast_68 (lv_at hl 2 rfl) ?_
                  refine va_iald hx hb hK hH.1 47 1 (cwc47 C A u1320) rfl (i_ix rfl (by omega) (by omega)) dX1_seekLast_70 ?_
                  refine p_any (fun z1352 => ?_)
                  refine lv_iload hx hb dX1_seekLast_71 (lv_at hl 1 rfl) ?_
                  refine csS (n := 2) (As := [.int z1352, .int y1319d]) (rest := []) ⟨hx, hb, hml, hown, hts⟩ uc_in (kX5_has_0 l D C A u1320 hI z1352 z1352.toInt rfl y1319d y1319d.toInt rfl) q_m853 q_s641 q_i4 q_c642 hvX5_has ⟨(Nat.le_of_ble_eq_true rfl), (Nat.le_of_ble_eq_true rfl)⟩ ⟨(Nat.le_of_ble_eq_true rfl), (Nat.le_of_ble_eq_true rfl)⟩ hK hH.1 rfl hl.1 rfl (Nat.le_of_ble_eq_true rfl) dX1_seekLast_73 (fun r1353 p1354 => ?_)
                  have p1354 : 0 ≤ r1353.toInt ∧ r1353.toInt ≤ 1 := p1354
                  refine lv_if_eq (tgt := 114) hx hb dX1_seekLast_76 (by decide) (fun c1355 => ?_) (fun c1355 => ?_)
                  · have c1355 := cEQ (x := r1353) (y := 0) (X := r1353.toInt) (Y := 0) rfl (by decide) c1355
                    exact j114_1349 ls u1320 _ _ Un.rf hI hH (lv_sub hl [1, 2, 3, 4, 5, 6] rfl)
                  · have c1355 := cNE (x := r1353) (y := 0) (X := r1353.toInt) (Y := 0) rfl (by decide) c1355
                    refine lv_aload_n hx hb dX1_seekLast_79 rfl (lv_at hl 4 rfl) ?_
                    refine lv_iload_n hx hb dX1_seekLast_80 rfl (lv_at hl 5 rfl) ?_
                    have j93_1366 : ∀ (ls : Array Slot) (y1357d : Int32), lv_has ls 8 [(6, .int y1319d), (5, .int y1010d), (4, .int y1011d), (0, .ref (A 12)), (1, .int a0), (2, .int a1)] → W p l e (rmL 4 0 0) s m ar below meth c H locs 0 0 Q (F0 m 93 ls [.int y1357d, .ref (A 12)]) := by
                      intro ls y1357d hl
                      refine r_put (j := 65) (ci := 1) (C := RX1) (T := TX1) (N := 15) hx hb hts (fun w h => uc_in w (inX1 w h)) tyX1 tyX1_ok nmX1 hown hK hH 12 (cwc12 C A u1320) rfl 7 (by decide) (hts _ (uc_in _ q_f227)) (fun _ h9 => h9) rfl (by decide +kernel) (Nat.le_of_ble_eq_true rfl) (cws65 C A u1320 _) dX1_seekLast_93 (fun u1368 eu1368 H locs hH => ?_)
                      have hI := hI.pi0 eu1368 rfl (by decide) (by decide)
                      refine lv_aload_n hx hb dX1_seekLast_96 rfl (lv_at hl 3 rfl) ?_
                      refine lv_iload_n hx hb dX1_seekLast_97 rfl (lv_at hl 4 rfl) ?_
                      refine lv_iconst (v := 1) hx hb dX1_seekLast_98 (by decide) ?_
                      refine lv_iadd hx hb dX1_seekLast_99 ?_
                      refine p_nm (tt_add (X := A0) (Y := 1) ha0 (by decide) (by omega) (by omega)) (fun z1369 hz1369 => ?_)
                      refine lv_iload hx hb dX1_seekLast_100 (lv_at hl 2 rfl) ?_
                      refine lv_aload_n hx hb dX1_seekLast_102 rfl (lv_at hl 3 rfl) ?_
                      refine lv_iload hx hb dX1_seekLast_103 (lv_at hl 1 rfl) ?_
                      refine lv_iload hx hb dX1_seekLast_105 (lv_at hl 0 rfl) ?_
                      refine cvS (n := 2) (As := [.int y1010d, .int y1319d]) (rest := [.int y1011d, .int z1369, .ref (A 12)]) ⟨hx, hb, hml, hown, hts⟩ uc_in (kX1_tollBy_0 l D C A u1368 hI y1010d y1010d.toInt rfl y1319d y1319d.toInt rfl (by omega) (by omega) (by omega) (by omega)) q_m854 q_n856 q_p31 q_i6 q_c857 hvX1_tollBy ⟨(Nat.le_of_ble_eq_true rfl), (Nat.le_of_ble_eq_true rfl)⟩ ⟨(Nat.le_of_ble_eq_true rfl), (Nat.le_of_ble_eq_true rfl)⟩ hK hH.1 1 12 rfl (cwc12 C A u1368) rfl hl.1 rfl (Nat.le_of_ble_eq_true rfl) dX1_seekLast_107 (fun r1370 p1371 => ?_)
                      refine lv_iadd hx hb dX1_seekLast_110 ?_
                      refine p_any (fun z1372 => ?_)
                      refine cvU (n := 2) (As := [.int z1369, .int z1372]) (rest := []) ⟨hx, hb, hml, hown, hts⟩ uc_in (kX1_keep_0 l D C A u1368 hI z1369 (A0 + 1) hz1369 z1372 z1372.toInt rfl _) q_m859 q_n861 q_p32 q_i6 q_c862 hvX1_keep ⟨(Nat.le_of_ble_eq_true rfl), (Nat.le_of_ble_eq_true rfl)⟩ ⟨(Nat.le_of_ble_eq_true rfl), (Nat.le_of_ble_eq_true rfl)⟩ hK hH (fun q h => Or.inr h) Bl0 (fun _ _ _ => trivial) 1 12 rfl (cwc12 C A u1368) rfl hl.1 rfl (Nat.le_of_ble_eq_true rfl) dX1_seekLast_111 (fun u1373 H locs p1375 hH => ?_)
                      obtain ⟨hI, hUu1373, p1375⟩ := p1375
                      exact j114_1349 ls u1373 _ _ (Un.tr (Un.si Un.rf rfl eu1368) hUu1373 rfl rfl rfl) hI hH hl
                    refine lv_if_ne (tgt := 89) hx hb dX1_seekLast_81 (by decide) (fun c1356 => ?_) (fun c1356 => ?_)
                    · have c1356 := cNE (x := a0) (y := 0) (X := A0) (Y := 0) ha0 (by decide) c1356
                      refine lv_aload_n hx hb dX1_seekLast_89 rfl (lv_at hl 4 rfl) ?_
                      refine va_get (ci := 1) (v := .int (gi u1320 65)) (C := RX1) (T := TX1) (N := 15) hx hb hts (fun w h => uc_in w (inX1 w h)) hown hK hH.1 12 (cwc12 C A u1320) rfl 7 (by decide) (hts _ (uc_in _ q_f227)) (fun _ h9 => h9) rfl dX1_seekLast_90 ?_
                      exact j93_1366 ls (gi u1320 65) (lv_sub hl [1, 2, 3, 4, 5, 6] rfl)
                    · have c1356 := cEQ (x := a0) (y := 0) (X := A0) (Y := 0) ha0 (by decide) c1356
                      refine lv_iload hx hb dX1_seekLast_84 (lv_at hl 0 rfl) ?_
                      refine lv_goto (tgt := 93) hx hb dX1_seekLast_86 (by decide) ?_
                      exact j93_1366 ls z1330 (lv_sub hl [1, 2, 3, 4, 5, 6] rfl)
          exact lp39_1320 7 ls 0 u1012 _ _ (by decide) (by decide) (by have q9 : (0 : Int32).toInt = 0 := (by decide); omega) Un.rf hI hH hl
  exact lp18_1012 8 ls z5 a2 u2 _ _ (by have q9 := (show z5.toInt = (A1 / 10) from hz5); omega) (by have q9 := (show z5.toInt = (A1 / 10) from hz5); omega) (by have q9 := (show z5.toInt = (A1 / 10) from hz5); omega) Un.rf hI hH (lv_sub hl [0, 1, 2, 3, 4] rfl)
set_option maxHeartbeats 4000000 in
set_option maxRecDepth 100000 in
theorem kX1_seek_2 (l : Launch) (D : va_G) (C : Nat → ClassId) (A : Nat → Nat) (u : St) (hI : IC u) (a1 : Int32) (A1 : Int) (ha1 : a1.toInt = A1) (a2 : Int32) (A2 : Int) (ha2 : a2.toInt = A2) (a3 : Int32) (A3 : Int) (ha3 : a3.toInt = A3) (hl2 : 0 ≤ A2) (hm2 : A2 ≤ 66) (sz : Nat) : MetV l yX1_seek cX1_seek 9 5 [.ref (A 12), .int 2, .int a1, .int a2, .int a3] D (tyl C) (cw C A) X0 u sz (fun u' => IC u' ∧ Un [(58, 58), (59, 59), (60, 60), (65, 65)] [(44, 44), (45, 45), (46, 46), (47, 47)] [] u u' ∧ True) := by
  refine mV (by decide) (Nat.le_of_ble_eq_true rfl) ?_
  intro p e s m below meth c ls ar Q hx hb hml hown hts hK hH hX hl hret
  have hown : s.vm.findClass RX1 = some m.cls := hown
  have hl : lv_has ls 9 [(0, .ref (A 12)), (1, .int 2), (2, .int a1), (3, .int a2), (4, .int a3)] := hl
  refine lv_iload_n hx hb dX1_seek_0 rfl (lv_at hl 2 rfl) ?_
  refine lv_iconst (v := 1) hx hb dX1_seek_1 (by decide) ?_
  have j12_6 : ∀ (ls : Array Slot), lv_has ls 9 [(0, .ref (A 12)), (1, .int 2), (3, .int a2), (4, .int a3)] → W p l e (rmL 5 0 0) s m ar below meth c s.heap [] 0 0 Q (F0 m 12 ls []) := by
    intro ls hl
    refine lv_aload_n hx hb dX1_seek_12 rfl (lv_at hl 0 rfl) ?_
    refine lv_iload_n hx hb dX1_seek_13 rfl (lv_at hl 1 rfl) ?_
    refine lv_iload_n hx hb dX1_seek_14 rfl (lv_at hl 2 rfl) ?_
    refine lv_iload hx hb dX1_seek_15 (lv_at hl 3 rfl) ?_
    refine cvU (n := 3) (As := [.int 2, .int a2, .int a3]) (rest := []) ⟨hx, hb, hml, hown, hts⟩ uc_in (kX1_seekLast_0 l D C A u hI (2) 2 (by decide) a2 A2 ha2 a3 A3 ha3 (by decide) (by decide) (by omega) (by omega) _) q_m844 q_n846 q_p29 q_i6 q_c847 hvX1_seekLast ⟨(Nat.le_of_ble_eq_true rfl), (Nat.le_of_ble_eq_true rfl)⟩ ⟨(Nat.le_of_ble_eq_true rfl), (Nat.le_of_ble_eq_true rfl)⟩ hK hH (fun q h => Or.inr h) Bl0 (fun _ _ _ => trivial) 1 12 rfl (cwc12 C A u) rfl hl.1 rfl (Nat.le_of_ble_eq_true rfl) dX1_seek_17 (fun u8 H locs p10 hH => ?_)
    obtain ⟨hI, hUu8, p10⟩ := p10
    exact hret _ _ _ _ _ dX1_seek_20 ⟨hI, (Un.tr Un.rf hUu8 rfl rfl rfl), trivial⟩ hH
  refine lv_icmp_le (tgt := 12) hx hb dX1_seek_2 (by decide) (fun c1 => ?_) (fun c1 => ?_)
  · have c1 := cLE (x := a1) (y := 1) (X := A1) (Y := 1) ha1 (by decide) c1
    exact j12_6 ls (lv_sub hl [0, 1, 3, 4] rfl)
  · have c1 := cNLE (x := a1) (y := 1) (X := A1) (Y := 1) ha1 (by decide) c1
    refine lv_iload_n hx hb dX1_seek_5 rfl (lv_at hl 1 rfl) ?_
    refine lv_iconst (v := 1) hx hb dX1_seek_6 (by decide) ?_
    refine lv_iadd hx hb dX1_seek_7 ?_
    refine pv_i (v := 3) (by decide) ?_
    refine lv_iconst (v := 3) hx hb dX1_seek_8 (by decide) ?_
    refine lv_icmp_lt (tgt := 21) hx hb dX1_seek_9 (by decide) (fun c11 => absurd c11 (by decide)) (fun c11 => ?_)
    exact j12_6 ls (lv_sub hl [0, 1, 3, 4] rfl)
set_option maxHeartbeats 4000000 in
set_option maxRecDepth 100000 in
theorem kX1_seek_1 (l : Launch) (D : va_G) (C : Nat → ClassId) (A : Nat → Nat) (u : St) (hI : IC u) (a1 : Int32) (A1 : Int) (ha1 : a1.toInt = A1) (a2 : Int32) (A2 : Int) (ha2 : a2.toInt = A2) (a3 : Int32) (A3 : Int) (ha3 : a3.toInt = A3) (hl2 : 0 ≤ A2) (hm2 : A2 ≤ 66) (sz : Nat) : MetV l yX1_seek cX1_seek 9 6 [.ref (A 12), .int 1, .int a1, .int a2, .int a3] D (tyl C) (cw C A) X0 u sz (fun u' => IC u' ∧ Un [(58, 58), (59, 59), (60, 60), (65, 65)] [(44, 44), (45, 45), (46, 46), (47, 47), (140, 160)] [] u u' ∧ True) := by
  refine mV (by decide) (Nat.le_of_ble_eq_true rfl) ?_
  intro p e s m below meth c ls ar Q hx hb hml hown hts hK hH hX hl hret
  have hown : s.vm.findClass RX1 = some m.cls := hown
  have hl : lv_has ls 9 [(0, .ref (A 12)), (1, .int 1), (2, .int a1), (3, .int a2), (4, .int a3)] := hl
  refine lv_iload_n hx hb dX1_seek_0 rfl (lv_at hl 2 rfl) ?_
  refine lv_iconst (v := 1) hx hb dX1_seek_1 (by decide) ?_
  refine lv_icmp_le (tgt := 12) hx hb dX1_seek_2 (by decide) (fun c1 => ?_) (fun c1 => ?_)
  · have c1 := cLE (x := a1) (y := 1) (X := A1) (Y := 1) ha1 (by decide) c1
    refine lv_aload_n hx hb dX1_seek_12 rfl (lv_at hl 0 rfl) ?_
    refine lv_iload_n hx hb dX1_seek_13 rfl (lv_at hl 1 rfl) ?_
    refine lv_iload_n hx hb dX1_seek_14 rfl (lv_at hl 3 rfl) ?_
    refine lv_iload hx hb dX1_seek_15 (lv_at hl 4 rfl) ?_
    refine cvU (n := 3) (As := [.int 1, .int a2, .int a3]) (rest := []) ⟨hx, hb, hml, hown, hts⟩ uc_in (kX1_seekLast_0 l D C A u hI (1) 1 (by decide) a2 A2 ha2 a3 A3 ha3 (by decide) (by decide) (by omega) (by omega) _) q_m844 q_n846 q_p29 q_i6 q_c847 hvX1_seekLast ⟨(Nat.le_of_ble_eq_true rfl), (Nat.le_of_ble_eq_true rfl)⟩ ⟨(Nat.le_of_ble_eq_true rfl), (Nat.le_of_ble_eq_true rfl)⟩ hK hH (fun q h => Or.inr h) Bl0 (fun _ _ _ => trivial) 1 12 rfl (cwc12 C A u) rfl hl.1 rfl (Nat.le_of_ble_eq_true rfl) dX1_seek_17 (fun u1201 H locs p1203 hH => ?_)
    obtain ⟨hI, hUu1201, p1203⟩ := p1203
    exact hret _ _ _ _ _ dX1_seek_20 ⟨hI, (Un.tr Un.rf hUu1201 rfl rfl rfl), trivial⟩ hH
  · have c1 := cNLE (x := a1) (y := 1) (X := A1) (Y := 1) ha1 (by decide) c1
    refine lv_iload_n hx hb dX1_seek_5 rfl (lv_at hl 1 rfl) ?_
    refine lv_iconst (v := 1) hx hb dX1_seek_6 (by decide) ?_
    refine lv_iadd hx hb dX1_seek_7 ?_
    refine pv_i (v := 2) (by decide) ?_
    refine lv_iconst (v := 3) hx hb dX1_seek_8 (by decide) ?_
    refine lv_icmp_lt (tgt := 21) hx hb dX1_seek_9 (by decide) (fun c1204 => ?_) (fun c1204 => absurd c1204 (by decide))
    refine lv_iload hx hb dX1_seek_21 (lv_at hl 4 rfl) ?_
    refine lv_istore (lv' := [(5, .int a3), (0, .ref (A 12)), (1, .int 1), (2, .int a1), (3, .int a2), (4, .int a3)]) hx hb dX1_seek_23 hl (by decide) rfl (fun ls hl => ?_)
    refine lv_iload_n hx hb dX1_seek_25 rfl (lv_at hl 4 rfl) ?_
    refine lv_bipush (v := 10) hx hb dX1_seek_26 (by decide) ?_
    refine lv_idiv hx hb dX1_seek_28 (by decide) ?_
    refine p_nm (tt_div 10 ha2 (by decide) (by omega) (by decide)) (fun z1205 hz1205 => ?_)
    refine lv_istore (lv' := [(6, .int z1205), (5, .int a3), (0, .ref (A 12)), (1, .int 1), (2, .int a1), (3, .int a2), (4, .int a3)]) hx hb dX1_seek_29 hl (by decide) rfl (fun ls hl => ?_)
    have lp31_2104 : ∀ (n31 : Nat) (ls : Array Slot) (y2102d : Int32) (y2103d : Int32) (u2104 : St) (H : Heap) (locs : List Loc), 0 ≤ y2102d.toInt → y2102d.toInt ≤ 7 → 7 - y2102d.toInt < (n31 : Int) → Un [(58, 58), (59, 59), (60, 60), (65, 65)] [(44, 44), (45, 45), (46, 46), (47, 47), (140, 160)] [] u u2104 → IC u2104 → Hd D (cw C A) (va_A (cw C A u) s.heap.size) s.heap u2104 H locs → lv_has ls 9 [(6, .int y2102d), (5, .int y2103d), (0, .ref (A 12)), (1, .int 1), (2, .int a1), (3, .int a2)] → W p l e (rmL 6 0 0) s m ar below meth c H locs 0 0 Q (F0 m 31 ls []) := by
      intro n31
      induction n31 with
      | zero => intro ls y2102d y2103d u2104 H locs ly2102d my2102d hmun31 hUu2104 hI hH hl; exfalso; omega
      | succ n31 ih31_2104 =>
        intro ls y2102d y2103d u2104 H locs ly2102d my2102d hmun31 hUu2104 hI hH hl
        refine lv_iload hx hb dX1_seek_31 (lv_at hl 0 rfl) ?_
        refine lv_aload_n hx hb dX1_seek_33 rfl (lv_at hl 2 rfl) ?_
        refine va_get (ci := 1) (v := .int (gi u2104 61)) (C := RX1) (T := TX1) (N := 15) hx hb hts (fun w h => uc_in w (inX1 w h)) hown hK hH.1 12 (cwc12 C A u2104) rfl 3 (by decide) (hts _ (uc_in _ q_f223)) (fun _ h9 => h9) rfl dX1_seek_34 ?_
        have b2106 := hI.b61
        refine lv_icmp_ge (tgt := 146) hx hb dX1_seek_37 (by decide) (fun c2107 => ?_) (fun c2107 => ?_)
        · have c2107 := cLE (x := (gi u2104 61)) (y := y2102d) (X := ((gi u2104 61)).toInt) (Y := y2102d.toInt) rfl rfl c2107
          exact hret _ _ _ _ _ dX1_seek_146 ⟨hI, (Un.tr Un.rf hUu2104 rfl rfl rfl), trivial⟩ hH
        · have c2107 := cNLE (x := (gi u2104 61)) (y := y2102d) (X := ((gi u2104 61)).toInt) (Y := y2102d.toInt) rfl rfl c2107
          refine lv_iload hx hb dX1_seek_40 (lv_at hl 1 rfl) ?_
          refine lv_aload_n hx hb dX1_seek_42 rfl (lv_at hl 2 rfl) ?_
          refine va_get (ci := 1) (v := .int (gi u2104 58)) (C := RX1) (T := TX1) (N := 15) hx hb hts (fun w h => uc_in w (inX1 w h)) hown hK hH.1 12 (cwc12 C A u2104) rfl 0 (by decide) (hts _ (uc_in _ q_f217)) (fun _ h9 => h9) rfl dX1_seek_43 ?_
          refine lv_icmp_ge (tgt := 146) hx hb dX1_seek_46 (by decide) (fun c2108 => ?_) (fun c2108 => ?_)
          · have c2108 := cLE (x := (gi u2104 58)) (y := y2103d) (X := ((gi u2104 58)).toInt) (Y := y2103d.toInt) rfl rfl c2108
            exact hret _ _ _ _ _ dX1_seek_146 ⟨hI, (Un.tr Un.rf hUu2104 rfl rfl rfl), trivial⟩ hH
          · have c2108 := cNLE (x := (gi u2104 58)) (y := y2103d) (X := ((gi u2104 58)).toInt) (Y := y2103d.toInt) rfl rfl c2108
            refine lv_iconst (v := 0) hx hb dX1_seek_49 (by decide) ?_
            refine lv_istore (lv' := [(7, .int 0), (6, .int y2102d), (5, .int y2103d), (0, .ref (A 12)), (1, .int 1), (2, .int a1), (3, .int a2)]) hx hb dX1_seek_50 hl (by decide) rfl (fun ls hl => ?_)
            have lp52_2379 : ∀ (n52 : Nat) (ls : Array Slot) (y2378d : Int32) (u2379 : St) (H : Heap) (locs : List Loc), 0 ≤ y2378d.toInt → y2378d.toInt ≤ 6 → 6 - y2378d.toInt < (n52 : Int) → Un [(58, 58), (59, 59), (60, 60), (65, 65)] [(44, 44), (45, 45), (46, 46), (47, 47), (140, 160)] [] u2104 u2379 → IC u2379 → Hd D (cw C A) (va_A (cw C A u) s.heap.size) s.heap u2379 H locs → lv_has ls 9 [(7, .int y2378d), (6, .int y2102d), (5, .int y2103d), (0, .ref (A 12)), (1, .int 1), (2, .int a1), (3, .int a2)] → W p l e (rmL 6 0 0) s m ar below meth c H locs 0 0 Q (F0 m 52 ls []) := by
              intro n52
              induction n52 with
              | zero => intro ls y2378d u2379 H locs ly2378d my2378d hmun52 hUu2379 hI hH hl; exfalso; omega
              | succ n52 ih52_2379 =>
                intro ls y2378d u2379 H locs ly2378d my2378d hmun52 hUu2379 hI hH hl
                refine lv_iload hx hb dX1_seek_52 (lv_at hl 0 rfl) ?_
                refine lv_aload_n hx hb dX1_seek_54 rfl (lv_at hl 3 rfl) ?_
                refine va_get (ci := 1) (v := .int (gi u2379 62)) (C := RX1) (T := TX1) (N := 15) hx hb hts (fun w h => uc_in w (inX1 w h)) hown hK hH.1 12 (cwc12 C A u2379) rfl 4 (by decide) (hts _ (uc_in _ q_f224)) (fun _ h9 => h9) rfl dX1_seek_55 ?_
                have b2381 := hI.b62
                refine lv_icmp_ge (tgt := 128) hx hb dX1_seek_58 (by decide) (fun c2382 => ?_) (fun c2382 => ?_)
                · have c2382 := cLE (x := (gi u2379 62)) (y := y2378d) (X := ((gi u2379 62)).toInt) (Y := y2378d.toInt) rfl rfl c2382
                  refine lv_iload hx hb dX1_seek_128 (lv_at hl 2 rfl) ?_
                  refine lv_aload_n hx hb dX1_seek_130 rfl (lv_at hl 3 rfl) ?_
                  refine lv_iload_n hx hb dX1_seek_131 rfl (lv_at hl 4 rfl) ?_
                  refine lv_iload hx hb dX1_seek_132 (lv_at hl 1 rfl) ?_
                  refine cvS (n := 2) (As := [.int 1, .int y2102d]) (rest := [.int y2103d]) ⟨hx, hb, hml, hown, hts⟩ uc_in (kX1_toll_0 l D C A u2379 hI (1) 1 (by decide) y2102d y2102d.toInt rfl (by decide) (by decide) (by omega) (by omega)) q_m830 q_n832 q_p26 q_i6 q_c833 hvX1_toll ⟨(Nat.le_of_ble_eq_true rfl), (Nat.le_of_ble_eq_true rfl)⟩ ⟨(Nat.le_of_ble_eq_true rfl), (Nat.le_of_ble_eq_true rfl)⟩ hK hH.1 1 12 rfl (cwc12 C A u2379) rfl hl.1 rfl (Nat.le_of_ble_eq_true rfl) dX1_seek_134 (fun r2383 p2384 => ?_)
                  refine lv_iadd hx hb dX1_seek_137 ?_
                  refine p_any (fun z2385 => ?_)
                  refine lv_istore (lv' := [(5, .int z2385), (7, .int y2378d), (6, .int y2102d), (0, .ref (A 12)), (1, .int 1), (2, .int a1), (3, .int a2)]) hx hb dX1_seek_138 hl (by decide) rfl (fun ls hl => ?_)
                  obtain ⟨z2386, ez2386⟩ : ∃ z, z = y2102d + Int32.ofInt 1 := ⟨_, rfl⟩
                  have hz2386 : z2386.toInt = y2102d.toInt + 1 := by rw [ez2386]; exact tt_add rfl (by decide) (by omega) (by omega)
                  refine lv_iinc (v := z2386) (lv' := [(6, .int z2386), (5, .int z2385), (7, .int y2378d), (0, .ref (A 12)), (1, .int 1), (2, .int a1), (3, .int a2)]) hx hb dX1_seek_140 hl (k := 2) rfl ez2386.symm (by decide) rfl (fun ls hl => ?_)
                  refine lv_goto (tgt := 31) hx hb dX1_seek_143 (by decide) ?_
                  exact ih31_2104 ls z2386 z2385 u2379 _ _ (by have q9 := (show z2386.toInt = (y2102d.toInt + 1) from hz2386); omega) (by have q9 := (show z2386.toInt = (y2102d.toInt + 1) from hz2386); omega) (by have q9 := (show z2386.toInt = (y2102d.toInt + 1) from hz2386); omega) (Un.tr hUu2104 hUu2379 rfl rfl rfl) hI hH (lv_sub hl [0, 1, 3, 4, 5, 6] rfl)
                · have c2382 := cNLE (x := (gi u2379 62)) (y := y2378d) (X := ((gi u2379 62)).toInt) (Y := y2378d.toInt) rfl rfl c2382
                  refine lv_bipush (v := 10) hx hb dX1_seek_61 (by decide) ?_
                  refine lv_iload hx hb dX1_seek_63 (lv_at hl 1 rfl) ?_
                  refine lv_imul hx hb dX1_seek_65 ?_
                  refine p_nm (tt_mul (X := 10) (Y := y2102d.toInt) (by decide) rfl (by omega) (by omega)) (fun z2387 hz2387 => ?_)
                  refine lv_iload hx hb dX1_seek_66 (lv_at hl 0 rfl) ?_
                  refine lv_iadd hx hb dX1_seek_68 ?_
                  refine p_nm (tt_add (X := (10 * y2102d.toInt)) (Y := y2378d.toInt) hz2387 rfl (by omega) (by omega)) (fun z2388 hz2388 => ?_)
                  refine lv_istore (lv' := [(8, .int z2388), (7, .int y2378d), (6, .int y2102d), (5, .int y2103d), (0, .ref (A 12)), (1, .int 1), (2, .int a1), (3, .int a2)]) hx hb dX1_seek_69 hl (by decide) rfl (fun ls hl => ?_)
                  refine lv_iload hx hb dX1_seek_71 (lv_at hl 0 rfl) ?_
                  refine lv_iload_n hx hb dX1_seek_73 rfl (lv_at hl 7 rfl) ?_
                  have j122_2405 : ∀ (ls : Array Slot) (u2405 : St) (H : Heap) (locs : List Loc), Un [(58, 58), (59, 59), (60, 60), (65, 65)] [(44, 44), (45, 45), (46, 46), (47, 47), (140, 160)] [] u2379 u2405 → IC u2405 → Hd D (cw C A) (va_A (cw C A u) s.heap.size) s.heap u2405 H locs → lv_has ls 9 [(7, .int y2378d), (6, .int y2102d), (5, .int y2103d), (0, .ref (A 12)), (1, .int 1), (2, .int a1), (3, .int a2)] → W p l e (rmL 6 0 0) s m ar below meth c H locs 0 0 Q (F0 m 122 ls []) := by
                    intro ls u2405 H locs hUu2405 hI hH hl
                    obtain ⟨z2407, ez2407⟩ : ∃ z, z = y2378d + Int32.ofInt 1 := ⟨_, rfl⟩
                    have hz2407 : z2407.toInt = y2378d.toInt + 1 := by rw [ez2407]; exact tt_add rfl (by decide) (by omega) (by omega)
                    refine lv_iinc (v := z2407) (lv' := [(7, .int z2407), (6, .int y2102d), (5, .int y2103d), (0, .ref (A 12)), (1, .int 1), (2, .int a1), (3, .int a2)]) hx hb dX1_seek_122 hl (k := 0) rfl ez2407.symm (by decide) rfl (fun ls hl => ?_)
                    refine lv_goto (tgt := 52) hx hb dX1_seek_125 (by decide) ?_
                    exact ih52_2379 ls z2407 u2405 _ _ (by have q9 := (show z2407.toInt = (y2378d.toInt + 1) from hz2407); omega) (by have q9 := (show z2407.toInt = (y2378d.toInt + 1) from hz2407); omega) (by have q9 := (show z2407.toInt = (y2378d.toInt + 1) from hz2407); omega) (Un.tr hUu2379 hUu2405 rfl rfl rfl) hI hH hl
                  refine lv_icmp_lt (tgt := 122) hx hb dX1_seek_74 (by decide) (fun c2389 => ?_) (fun c2389 => ?_)
                  · have c2389 := cLT (x := z2388) (y := a2) (X := ((10 * y2102d.toInt) + y2378d.toInt)) (Y := A2) hz2388 ha2 c2389
                    exact j122_2405 ls u2379 _ _ Un.rf hI hH (lv_sub hl [1, 2, 3, 4, 5, 6, 7] rfl)
                  · have c2389 := cNLT (x := z2388) (y := a2) (X := ((10 * y2102d.toInt) + y2378d.toInt)) (Y := A2) hz2388 ha2 c2389
                    refine lv_aload_n hx hb dX1_seek_77 rfl (lv_at hl 4 rfl) ?_
                    refine lv_iload_n hx hb dX1_seek_78 rfl (lv_at hl 5 rfl) ?_
                    refine lv_iload hx hb dX1_seek_79 (lv_at hl 2 rfl) ?_
                    refine lv_iload hx hb dX1_seek_81 (lv_at hl 1 rfl) ?_
                    refine cvI (n := 3) (As := [.int 1, .int y2102d, .int y2378d]) (rest := []) ⟨hx, hb, hml, hown, hts⟩ uc_in (kX1_apply_0 l D C A u2379 hI (1) 1 (by decide) y2102d y2102d.toInt rfl y2378d y2378d.toInt rfl (by decide) (by decide) (by omega) (by omega) (by omega) (by omega) _) q_m863 q_n865 q_p33 q_i6 q_c866 hvX1_apply ⟨(Nat.le_of_ble_eq_true rfl), (Nat.le_of_ble_eq_true rfl)⟩ ⟨(Nat.le_of_ble_eq_true rfl), (Nat.le_of_ble_eq_true rfl)⟩ hK hH (fun q h => Or.inr h) Bl0 (fun _ _ _ => trivial) 1 12 rfl (cwc12 C A u2379) rfl hl.1 rfl (Nat.le_of_ble_eq_true rfl) dX1_seek_83 (fun r2409 u2408 H locs p2410 hH => ?_)
                    obtain ⟨hI, hUu2408, p2410⟩ := p2410
                    have p2410 : 0 ≤ r2409.toInt ∧ r2409.toInt ≤ 1 := p2410
                    refine lv_if_eq (tgt := 122) hx hb dX1_seek_86 (by decide) (fun c2411 => ?_) (fun c2411 => ?_)
                    · have c2411 := cEQ (x := r2409) (y := 0) (X := r2409.toInt) (Y := 0) rfl (by decide) c2411
                      exact j122_2405 ls u2408 _ _ (Un.tr Un.rf hUu2408 rfl rfl rfl) hI hH (lv_sub hl [1, 2, 3, 4, 5, 6, 7] rfl)
                    · have c2411 := cNE (x := r2409) (y := 0) (X := r2409.toInt) (Y := 0) rfl (by decide) c2411
                      refine lv_aload_n hx hb dX1_seek_89 rfl (lv_at hl 4 rfl) ?_
                      refine lv_iload_n hx hb dX1_seek_90 rfl (lv_at hl 5 rfl) ?_
                      refine lv_if_ne (tgt := 99) hx hb dX1_seek_91 (by decide) (fun c2412 => ?_) (fun c2412 => absurd c2412 (by decide))
                      refine lv_aload_n hx hb dX1_seek_99 rfl (lv_at hl 4 rfl) ?_
                      refine va_get (ci := 1) (v := .int (gi u2408 65)) (C := RX1) (T := TX1) (N := 15) hx hb hts (fun w h => uc_in w (inX1 w h)) hown hK hH.1 12 (cwc12 C A u2408) rfl 7 (by decide) (hts _ (uc_in _ q_f227)) (fun _ h9 => h9) rfl dX1_seek_100 ?_
                      refine r_put (j := 65) (ci := 1) (C := RX1) (T := TX1) (N := 15) hx hb hts (fun w h => uc_in w (inX1 w h)) tyX1 tyX1_ok nmX1 hown hK hH 12 (cwc12 C A u2408) rfl 7 (by decide) (hts _ (uc_in _ q_f227)) (fun _ h9 => h9) rfl (by decide +kernel) (Nat.le_of_ble_eq_true rfl) (cws65 C A u2408 _) dX1_seek_103 (fun u2413 eu2413 H locs hH => ?_)
                      have hI := hI.pi0 eu2413 rfl (by decide) (by decide)
                      refine lv_aload_n hx hb dX1_seek_106 rfl (lv_at hl 4 rfl) ?_
                      refine lv_iload_n hx hb dX1_seek_107 rfl (lv_at hl 5 rfl) ?_
                      refine lv_iconst (v := 1) hx hb dX1_seek_108 (by decide) ?_
                      refine lv_iadd hx hb dX1_seek_109 ?_
                      refine pv_i (v := 2) (by decide) ?_
                      refine lv_iload_n hx hb dX1_seek_110 rfl (lv_at hl 6 rfl) ?_
                      refine lv_iconst (v := 1) hx hb dX1_seek_111 (by decide) ?_
                      refine lv_isub hx hb dX1_seek_112 ?_
                      have b2414 := i_rng (x := a1) (X := A1) ha1
                      refine p_nm (tt_sub (X := A1) (Y := 1) ha1 (by decide) (by omega) (by omega)) (fun z2415 hz2415 => ?_)
                      refine lv_iload hx hb dX1_seek_113 (lv_at hl 0 rfl) ?_
                      refine lv_iconst (v := 1) hx hb dX1_seek_115 (by decide) ?_
                      refine lv_iadd hx hb dX1_seek_116 ?_
                      refine p_nm (tt_add (X := ((10 * y2102d.toInt) + y2378d.toInt)) (Y := 1) hz2388 (by decide) (by omega) (by omega)) (fun z2416 hz2416 => ?_)
                      refine lv_iload hx hb dX1_seek_117 (lv_at hl 3 rfl) ?_
                      refine cvU (n := 4) (As := [.int 2, .int z2415, .int z2416, .int y2103d]) (rest := []) ⟨hx, hb, hml, hown, hts⟩ uc_in (kX1_seek_2 l D C A u2413 hI z2415 (A1 - 1) hz2415 z2416 (((10 * y2102d.toInt) + y2378d.toInt) + 1) hz2416 y2103d y2103d.toInt rfl (by omega) (by omega) _) q_m840 q_n842 q_p28 q_i6 q_c843 hvX1_seek ⟨(Nat.le_of_ble_eq_true rfl), (Nat.le_of_ble_eq_true rfl)⟩ ⟨(Nat.le_of_ble_eq_true rfl), (Nat.le_of_ble_eq_true rfl)⟩ hK hH (fun q h => Or.inr h) Bl0 (fun _ _ _ => trivial) 1 12 rfl (cwc12 C A u2413) rfl hl.1 rfl (Nat.le_of_ble_eq_true rfl) dX1_seek_119 (fun u2417 H locs p2419 hH => ?_)
                      obtain ⟨hI, hUu2417, p2419⟩ := p2419
                      exact j122_2405 ls u2417 _ _ (Un.tr (Un.si (Un.tr Un.rf hUu2408 rfl rfl rfl) rfl eu2413) hUu2417 rfl rfl rfl) hI hH (lv_sub hl [1, 2, 3, 4, 5, 6, 7] rfl)
            exact lp52_2379 7 ls 0 u2104 _ _ (by decide) (by decide) (by have q9 : (0 : Int32).toInt = 0 := (by decide); omega) Un.rf hI hH hl
    exact lp31_2104 8 ls z1205 a3 u _ _ (by have q9 := (show z1205.toInt = (A2 / 10) from hz1205); omega) (by have q9 := (show z1205.toInt = (A2 / 10) from hz1205); omega) (by have q9 := (show z1205.toInt = (A2 / 10) from hz1205); omega) Un.rf hI hH (lv_sub hl [0, 1, 2, 3, 4, 5] rfl)
set_option maxHeartbeats 4000000 in
set_option maxRecDepth 100000 in
theorem kX1_seek_0 (l : Launch) (D : va_G) (C : Nat → ClassId) (A : Nat → Nat) (u : St) (hI : IC u) (a1 : Int32) (A1 : Int) (ha1 : a1.toInt = A1) (a2 : Int32) (A2 : Int) (ha2 : a2.toInt = A2) (a3 : Int32) (A3 : Int) (ha3 : a3.toInt = A3) (hl2 : 0 ≤ A2) (hm2 : A2 ≤ 66) (sz : Nat) : MetV l yX1_seek cX1_seek 9 7 [.ref (A 12), .int 0, .int a1, .int a2, .int a3] D (tyl C) (cw C A) X0 u sz (fun u' => IC u' ∧ Un [(58, 58), (59, 59), (60, 60), (65, 65)] [(44, 44), (45, 45), (46, 46), (47, 47), (140, 160)] [] u u' ∧ True) := by
  refine mV (by decide) (Nat.le_of_ble_eq_true rfl) ?_
  intro p e s m below meth c ls ar Q hx hb hml hown hts hK hH hX hl hret
  have hown : s.vm.findClass RX1 = some m.cls := hown
  have hl : lv_has ls 9 [(0, .ref (A 12)), (1, .int 0), (2, .int a1), (3, .int a2), (4, .int a3)] := hl
  refine lv_iload_n hx hb dX1_seek_0 rfl (lv_at hl 2 rfl) ?_
  refine lv_iconst (v := 1) hx hb dX1_seek_1 (by decide) ?_
  refine lv_icmp_le (tgt := 12) hx hb dX1_seek_2 (by decide) (fun c1 => ?_) (fun c1 => ?_)
  · have c1 := cLE (x := a1) (y := 1) (X := A1) (Y := 1) ha1 (by decide) c1
    refine lv_aload_n hx hb dX1_seek_12 rfl (lv_at hl 0 rfl) ?_
    refine lv_iload_n hx hb dX1_seek_13 rfl (lv_at hl 1 rfl) ?_
    refine lv_iload_n hx hb dX1_seek_14 rfl (lv_at hl 3 rfl) ?_
    refine lv_iload hx hb dX1_seek_15 (lv_at hl 4 rfl) ?_
    refine cvU (n := 3) (As := [.int 0, .int a2, .int a3]) (rest := []) ⟨hx, hb, hml, hown, hts⟩ uc_in (kX1_seekLast_0 l D C A u hI (0) 0 (by decide) a2 A2 ha2 a3 A3 ha3 (by decide) (by decide) (by omega) (by omega) _) q_m844 q_n846 q_p29 q_i6 q_c847 hvX1_seekLast ⟨(Nat.le_of_ble_eq_true rfl), (Nat.le_of_ble_eq_true rfl)⟩ ⟨(Nat.le_of_ble_eq_true rfl), (Nat.le_of_ble_eq_true rfl)⟩ hK hH (fun q h => Or.inr h) Bl0 (fun _ _ _ => trivial) 1 12 rfl (cwc12 C A u) rfl hl.1 rfl (Nat.le_of_ble_eq_true rfl) dX1_seek_17 (fun u1201 H locs p1203 hH => ?_)
    obtain ⟨hI, hUu1201, p1203⟩ := p1203
    exact hret _ _ _ _ _ dX1_seek_20 ⟨hI, (Un.tr Un.rf hUu1201 rfl rfl rfl), trivial⟩ hH
  · have c1 := cNLE (x := a1) (y := 1) (X := A1) (Y := 1) ha1 (by decide) c1
    refine lv_iload_n hx hb dX1_seek_5 rfl (lv_at hl 1 rfl) ?_
    refine lv_iconst (v := 1) hx hb dX1_seek_6 (by decide) ?_
    refine lv_iadd hx hb dX1_seek_7 ?_
    refine pv_i (v := 1) (by decide) ?_
    refine lv_iconst (v := 3) hx hb dX1_seek_8 (by decide) ?_
    refine lv_icmp_lt (tgt := 21) hx hb dX1_seek_9 (by decide) (fun c1204 => ?_) (fun c1204 => absurd c1204 (by decide))
    refine lv_iload hx hb dX1_seek_21 (lv_at hl 4 rfl) ?_
    refine lv_istore (lv' := [(5, .int a3), (0, .ref (A 12)), (1, .int 0), (2, .int a1), (3, .int a2), (4, .int a3)]) hx hb dX1_seek_23 hl (by decide) rfl (fun ls hl => ?_)
    refine lv_iload_n hx hb dX1_seek_25 rfl (lv_at hl 4 rfl) ?_
    refine lv_bipush (v := 10) hx hb dX1_seek_26 (by decide) ?_
    refine lv_idiv hx hb dX1_seek_28 (by decide) ?_
    refine p_nm (tt_div 10 ha2 (by decide) (by omega) (by decide)) (fun z1205 hz1205 => ?_)
    refine lv_istore (lv' := [(6, .int z1205), (5, .int a3), (0, .ref (A 12)), (1, .int 0), (2, .int a1), (3, .int a2), (4, .int a3)]) hx hb dX1_seek_29 hl (by decide) rfl (fun ls hl => ?_)
    have lp31_2104 : ∀ (n31 : Nat) (ls : Array Slot) (y2102d : Int32) (y2103d : Int32) (u2104 : St) (H : Heap) (locs : List Loc), 0 ≤ y2102d.toInt → y2102d.toInt ≤ 7 → 7 - y2102d.toInt < (n31 : Int) → Un [(58, 58), (59, 59), (60, 60), (65, 65)] [(44, 44), (45, 45), (46, 46), (47, 47), (140, 160)] [] u u2104 → IC u2104 → Hd D (cw C A) (va_A (cw C A u) s.heap.size) s.heap u2104 H locs → lv_has ls 9 [(6, .int y2102d), (5, .int y2103d), (0, .ref (A 12)), (1, .int 0), (2, .int a1), (3, .int a2)] → W p l e (rmL 7 0 0) s m ar below meth c H locs 0 0 Q (F0 m 31 ls []) := by
      intro n31
      induction n31 with
      | zero => intro ls y2102d y2103d u2104 H locs ly2102d my2102d hmun31 hUu2104 hI hH hl; exfalso; omega
      | succ n31 ih31_2104 =>
        intro ls y2102d y2103d u2104 H locs ly2102d my2102d hmun31 hUu2104 hI hH hl
        refine lv_iload hx hb dX1_seek_31 (lv_at hl 0 rfl) ?_
        refine lv_aload_n hx hb dX1_seek_33 rfl (lv_at hl 2 rfl) ?_
        refine va_get (ci := 1) (v := .int (gi u2104 61)) (C := RX1) (T := TX1) (N := 15) hx hb hts (fun w h => uc_in w (inX1 w h)) hown hK hH.1 12 (cwc12 C A u2104) rfl 3 (by decide) (hts _ (uc_in _ q_f223)) (fun _ h9 => h9) rfl dX1_seek_34 ?_
        have b2106 := hI.b61
        refine lv_icmp_ge (tgt := 146) hx hb dX1_seek_37 (by decide) (fun c2107 => ?_) (fun c2107 => ?_)
        · have c2107 := cLE (x := (gi u2104 61)) (y := y2102d) (X := ((gi u2104 61)).toInt) (Y := y2102d.toInt) rfl rfl c2107
          exact hret _ _ _ _ _ dX1_seek_146 ⟨hI, (Un.tr Un.rf hUu2104 rfl rfl rfl), trivial⟩ hH
        · have c2107 := cNLE (x := (gi u2104 61)) (y := y2102d) (X := ((gi u2104 61)).toInt) (Y := y2102d.toInt) rfl rfl c2107
          refine lv_iload hx hb dX1_seek_40 (lv_at hl 1 rfl) ?_
          refine lv_aload_n hx hb dX1_seek_42 rfl (lv_at hl 2 rfl) ?_
          refine va_get (ci := 1) (v := .int (gi u2104 58)) (C := RX1) (T := TX1) (N := 15) hx hb hts (fun w h => uc_in w (inX1 w h)) hown hK hH.1 12 (cwc12 C A u2104) rfl 0 (by decide) (hts _ (uc_in _ q_f217)) (fun _ h9 => h9) rfl dX1_seek_43 ?_
          refine lv_icmp_ge (tgt := 146) hx hb dX1_seek_46 (by decide) (fun c2108 => ?_) (fun c2108 => ?_)
          · have c2108 := cLE (x := (gi u2104 58)) (y := y2103d) (X := ((gi u2104 58)).toInt) (Y := y2103d.toInt) rfl rfl c2108
            exact hret _ _ _ _ _ dX1_seek_146 ⟨hI, (Un.tr Un.rf hUu2104 rfl rfl rfl), trivial⟩ hH
          · have c2108 := cNLE (x := (gi u2104 58)) (y := y2103d) (X := ((gi u2104 58)).toInt) (Y := y2103d.toInt) rfl rfl c2108
            refine lv_iconst (v := 0) hx hb dX1_seek_49 (by decide) ?_
            refine lv_istore (lv' := [(7, .int 0), (6, .int y2102d), (5, .int y2103d), (0, .ref (A 12)), (1, .int 0), (2, .int a1), (3, .int a2)]) hx hb dX1_seek_50 hl (by decide) rfl (fun ls hl => ?_)
            have lp52_2379 : ∀ (n52 : Nat) (ls : Array Slot) (y2378d : Int32) (u2379 : St) (H : Heap) (locs : List Loc), 0 ≤ y2378d.toInt → y2378d.toInt ≤ 6 → 6 - y2378d.toInt < (n52 : Int) → Un [(58, 58), (59, 59), (60, 60), (65, 65)] [(44, 44), (45, 45), (46, 46), (47, 47), (140, 160)] [] u2104 u2379 → IC u2379 → Hd D (cw C A) (va_A (cw C A u) s.heap.size) s.heap u2379 H locs → lv_has ls 9 [(7, .int y2378d), (6, .int y2102d), (5, .int y2103d), (0, .ref (A 12)), (1, .int 0), (2, .int a1), (3, .int a2)] → W p l e (rmL 7 0 0) s m ar below meth c H locs 0 0 Q (F0 m 52 ls []) := by
              intro n52
              induction n52 with
              | zero => intro ls y2378d u2379 H locs ly2378d my2378d hmun52 hUu2379 hI hH hl; exfalso; omega
              | succ n52 ih52_2379 =>
                intro ls y2378d u2379 H locs ly2378d my2378d hmun52 hUu2379 hI hH hl
                refine lv_iload hx hb dX1_seek_52 (lv_at hl 0 rfl) ?_
                refine lv_aload_n hx hb dX1_seek_54 rfl (lv_at hl 3 rfl) ?_
                refine va_get (ci := 1) (v := .int (gi u2379 62)) (C := RX1) (T := TX1) (N := 15) hx hb hts (fun w h => uc_in w (inX1 w h)) hown hK hH.1 12 (cwc12 C A u2379) rfl 4 (by decide) (hts _ (uc_in _ q_f224)) (fun _ h9 => h9) rfl dX1_seek_55 ?_
                have b2381 := hI.b62
                refine lv_icmp_ge (tgt := 128) hx hb dX1_seek_58 (by decide) (fun c2382 => ?_) (fun c2382 => ?_)
                · have c2382 := cLE (x := (gi u2379 62)) (y := y2378d) (X := ((gi u2379 62)).toInt) (Y := y2378d.toInt) rfl rfl c2382
                  refine lv_iload hx hb dX1_seek_128 (lv_at hl 2 rfl) ?_
                  refine lv_aload_n hx hb dX1_seek_130 rfl (lv_at hl 3 rfl) ?_
                  refine lv_iload_n hx hb dX1_seek_131 rfl (lv_at hl 4 rfl) ?_
                  refine lv_iload hx hb dX1_seek_132 (lv_at hl 1 rfl) ?_
                  refine cvS (n := 2) (As := [.int 0, .int y2102d]) (rest := [.int y2103d]) ⟨hx, hb, hml, hown, hts⟩ uc_in (kX1_toll_0 l D C A u2379 hI (0) 0 (by decide) y2102d y2102d.toInt rfl (by decide) (by decide) (by omega) (by omega)) q_m830 q_n832 q_p26 q_i6 q_c833 hvX1_toll ⟨(Nat.le_of_ble_eq_true rfl), (Nat.le_of_ble_eq_true rfl)⟩ ⟨(Nat.le_of_ble_eq_true rfl), (Nat.le_of_ble_eq_true rfl)⟩ hK hH.1 1 12 rfl (cwc12 C A u2379) rfl hl.1 rfl (Nat.le_of_ble_eq_true rfl) dX1_seek_134 (fun r2383 p2384 => ?_)
                  refine lv_iadd hx hb dX1_seek_137 ?_
                  refine p_any (fun z2385 => ?_)
                  refine lv_istore (lv' := [(5, .int z2385), (7, .int y2378d), (6, .int y2102d), (0, .ref (A 12)), (1, .int 0), (2, .int a1), (3, .int a2)]) hx hb dX1_seek_138 hl (by decide) rfl (fun ls hl => ?_)
                  obtain ⟨z2386, ez2386⟩ : ∃ z, z = y2102d + Int32.ofInt 1 := ⟨_, rfl⟩
                  have hz2386 : z2386.toInt = y2102d.toInt + 1 := by rw [ez2386]; exact tt_add rfl (by decide) (by omega) (by omega)
                  refine lv_iinc (v := z2386) (lv' := [(6, .int z2386), (5, .int z2385), (7, .int y2378d), (0, .ref (A 12)), (1, .int 0), (2, .int a1), (3, .int a2)]) hx hb dX1_seek_140 hl (k := 2) rfl ez2386.symm (by decide) rfl (fun ls hl => ?_)
                  refine lv_goto (tgt := 31) hx hb dX1_seek_143 (by decide) ?_
                  exact ih31_2104 ls z2386 z2385 u2379 _ _ (by have q9 := (show z2386.toInt = (y2102d.toInt + 1) from hz2386); omega) (by have q9 := (show z2386.toInt = (y2102d.toInt + 1) from hz2386); omega) (by have q9 := (show z2386.toInt = (y2102d.toInt + 1) from hz2386); omega) (Un.tr hUu2104 hUu2379 rfl rfl rfl) hI hH (lv_sub hl [0, 1, 3, 4, 5, 6] rfl)
                · have c2382 := cNLE (x := (gi u2379 62)) (y := y2378d) (X := ((gi u2379 62)).toInt) (Y := y2378d.toInt) rfl rfl c2382
                  refine lv_bipush (v := 10) hx hb dX1_seek_61 (by decide) ?_
                  refine lv_iload hx hb dX1_seek_63 (lv_at hl 1 rfl) ?_
                  refine lv_imul hx hb dX1_seek_65 ?_
                  refine p_nm (tt_mul (X := 10) (Y := y2102d.toInt) (by decide) rfl (by omega) (by omega)) (fun z2387 hz2387 => ?_)
                  refine lv_iload hx hb dX1_seek_66 (lv_at hl 0 rfl) ?_
                  refine lv_iadd hx hb dX1_seek_68 ?_
                  refine p_nm (tt_add (X := (10 * y2102d.toInt)) (Y := y2378d.toInt) hz2387 rfl (by omega) (by omega)) (fun z2388 hz2388 => ?_)
                  refine lv_istore (lv' := [(8, .int z2388), (7, .int y2378d), (6, .int y2102d), (5, .int y2103d), (0, .ref (A 12)), (1, .int 0), (2, .int a1), (3, .int a2)]) hx hb dX1_seek_69 hl (by decide) rfl (fun ls hl => ?_)
                  refine lv_iload hx hb dX1_seek_71 (lv_at hl 0 rfl) ?_
                  refine lv_iload_n hx hb dX1_seek_73 rfl (lv_at hl 7 rfl) ?_
                  have j122_2405 : ∀ (ls : Array Slot) (u2405 : St) (H : Heap) (locs : List Loc), Un [(58, 58), (59, 59), (60, 60), (65, 65)] [(44, 44), (45, 45), (46, 46), (47, 47), (140, 160)] [] u2379 u2405 → IC u2405 → Hd D (cw C A) (va_A (cw C A u) s.heap.size) s.heap u2405 H locs → lv_has ls 9 [(7, .int y2378d), (6, .int y2102d), (5, .int y2103d), (0, .ref (A 12)), (1, .int 0), (2, .int a1), (3, .int a2)] → W p l e (rmL 7 0 0) s m ar below meth c H locs 0 0 Q (F0 m 122 ls []) := by
                    intro ls u2405 H locs hUu2405 hI hH hl
                    obtain ⟨z2407, ez2407⟩ : ∃ z, z = y2378d + Int32.ofInt 1 := ⟨_, rfl⟩
                    have hz2407 : z2407.toInt = y2378d.toInt + 1 := by rw [ez2407]; exact tt_add rfl (by decide) (by omega) (by omega)
                    refine lv_iinc (v := z2407) (lv' := [(7, .int z2407), (6, .int y2102d), (5, .int y2103d), (0, .ref (A 12)), (1, .int 0), (2, .int a1), (3, .int a2)]) hx hb dX1_seek_122 hl (k := 0) rfl ez2407.symm (by decide) rfl (fun ls hl => ?_)
                    refine lv_goto (tgt := 52) hx hb dX1_seek_125 (by decide) ?_
                    exact ih52_2379 ls z2407 u2405 _ _ (by have q9 := (show z2407.toInt = (y2378d.toInt + 1) from hz2407); omega) (by have q9 := (show z2407.toInt = (y2378d.toInt + 1) from hz2407); omega) (by have q9 := (show z2407.toInt = (y2378d.toInt + 1) from hz2407); omega) (Un.tr hUu2379 hUu2405 rfl rfl rfl) hI hH hl
                  refine lv_icmp_lt (tgt := 122) hx hb dX1_seek_74 (by decide) (fun c2389 => ?_) (fun c2389 => ?_)
                  · have c2389 := cLT (x := z2388) (y := a2) (X := ((10 * y2102d.toInt) + y2378d.toInt)) (Y := A2) hz2388 ha2 c2389
                    exact j122_2405 ls u2379 _ _ Un.rf hI hH (lv_sub hl [1, 2, 3, 4, 5, 6, 7] rfl)
                  · have c2389 := cNLT (x := z2388) (y := a2) (X := ((10 * y2102d.toInt) + y2378d.toInt)) (Y := A2) hz2388 ha2 c2389
                    refine lv_aload_n hx hb dX1_seek_77 rfl (lv_at hl 4 rfl) ?_
                    refine lv_iload_n hx hb dX1_seek_78 rfl (lv_at hl 5 rfl) ?_
                    refine lv_iload hx hb dX1_seek_79 (lv_at hl 2 rfl) ?_
                    refine lv_iload hx hb dX1_seek_81 (lv_at hl 1 rfl) ?_
                    refine cvI (n := 3) (As := [.int 0, .int y2102d, .int y2378d]) (rest := []) ⟨hx, hb, hml, hown, hts⟩ uc_in (kX1_apply_0 l D C A u2379 hI (0) 0 (by decide) y2102d y2102d.toInt rfl y2378d y2378d.toInt rfl (by decide) (by decide) (by omega) (by omega) (by omega) (by omega) _) q_m863 q_n865 q_p33 q_i6 q_c866 hvX1_apply ⟨(Nat.le_of_ble_eq_true rfl), (Nat.le_of_ble_eq_true rfl)⟩ ⟨(Nat.le_of_ble_eq_true rfl), (Nat.le_of_ble_eq_true rfl)⟩ hK hH (fun q h => Or.inr h) Bl0 (fun _ _ _ => trivial) 1 12 rfl (cwc12 C A u2379) rfl hl.1 rfl (Nat.le_of_ble_eq_true rfl) dX1_seek_83 (fun r2409 u2408 H locs p2410 hH => ?_)
                    obtain ⟨hI, hUu2408, p2410⟩ := p2410
                    have p2410 : 0 ≤ r2409.toInt ∧ r2409.toInt ≤ 1 := p2410
                    refine lv_if_eq (tgt := 122) hx hb dX1_seek_86 (by decide) (fun c2411 => ?_) (fun c2411 => ?_)
                    · have c2411 := cEQ (x := r2409) (y := 0) (X := r2409.toInt) (Y := 0) rfl (by decide) c2411
                      exact j122_2405 ls u2408 _ _ (Un.tr Un.rf hUu2408 rfl rfl rfl) hI hH (lv_sub hl [1, 2, 3, 4, 5, 6, 7] rfl)
                    · have c2411 := cNE (x := r2409) (y := 0) (X := r2409.toInt) (Y := 0) rfl (by decide) c2411
                      refine lv_aload_n hx hb dX1_seek_89 rfl (lv_at hl 4 rfl) ?_
                      refine lv_iload_n hx hb dX1_seek_90 rfl (lv_at hl 5 rfl) ?_
                      refine lv_if_ne (tgt := 99) hx hb dX1_seek_91 (by decide) (fun c2412 => absurd c2412 (by decide)) (fun c2412 => ?_)
                      refine lv_iload hx hb dX1_seek_94 (lv_at hl 0 rfl) ?_
                      refine lv_goto (tgt := 103) hx hb dX1_seek_96 (by decide) ?_
                      refine r_put (j := 65) (ci := 1) (C := RX1) (T := TX1) (N := 15) hx hb hts (fun w h => uc_in w (inX1 w h)) tyX1 tyX1_ok nmX1 hown hK hH 12 (cwc12 C A u2408) rfl 7 (by decide) (hts _ (uc_in _ q_f227)) (fun _ h9 => h9) rfl (by decide +kernel) (Nat.le_of_ble_eq_true rfl) (cws65 C A u2408 _) dX1_seek_103 (fun u2413 eu2413 H locs hH => ?_)
                      have hI := hI.pi0 eu2413 rfl (by decide) (by decide)
                      refine lv_aload_n hx hb dX1_seek_106 rfl (lv_at hl 4 rfl) ?_
                      refine lv_iload_n hx hb dX1_seek_107 rfl (lv_at hl 5 rfl) ?_
                      refine lv_iconst (v := 1) hx hb dX1_seek_108 (by decide) ?_
                      refine lv_iadd hx hb dX1_seek_109 ?_
                      refine pv_i (v := 1) (by decide) ?_
                      refine lv_iload_n hx hb dX1_seek_110 rfl (lv_at hl 6 rfl) ?_
                      refine lv_iconst (v := 1) hx hb dX1_seek_111 (by decide) ?_
                      refine lv_isub hx hb dX1_seek_112 ?_
                      have b2414 := i_rng (x := a1) (X := A1) ha1
                      refine p_nm (tt_sub (X := A1) (Y := 1) ha1 (by decide) (by omega) (by omega)) (fun z2415 hz2415 => ?_)
                      refine lv_iload hx hb dX1_seek_113 (lv_at hl 0 rfl) ?_
                      refine lv_iconst (v := 1) hx hb dX1_seek_115 (by decide) ?_
                      refine lv_iadd hx hb dX1_seek_116 ?_
                      refine p_nm (tt_add (X := ((10 * y2102d.toInt) + y2378d.toInt)) (Y := 1) hz2388 (by decide) (by omega) (by omega)) (fun z2416 hz2416 => ?_)
                      refine lv_iload hx hb dX1_seek_117 (lv_at hl 3 rfl) ?_
                      refine cvU (n := 4) (As := [.int 1, .int z2415, .int z2416, .int y2103d]) (rest := []) ⟨hx, hb, hml, hown, hts⟩ uc_in (kX1_seek_1 l D C A u2413 hI z2415 (A1 - 1) hz2415 z2416 (((10 * y2102d.toInt) + y2378d.toInt) + 1) hz2416 y2103d y2103d.toInt rfl (by omega) (by omega) _) q_m840 q_n842 q_p28 q_i6 q_c843 hvX1_seek ⟨(Nat.le_of_ble_eq_true rfl), (Nat.le_of_ble_eq_true rfl)⟩ ⟨(Nat.le_of_ble_eq_true rfl), (Nat.le_of_ble_eq_true rfl)⟩ hK hH (fun q h => Or.inr h) Bl0 (fun _ _ _ => trivial) 1 12 rfl (cwc12 C A u2413) rfl hl.1 rfl (Nat.le_of_ble_eq_true rfl) dX1_seek_119 (fun u2417 H locs p2419 hH => ?_)
                      obtain ⟨hI, hUu2417, p2419⟩ := p2419
                      exact j122_2405 ls u2417 _ _ (Un.tr (Un.si (Un.tr Un.rf hUu2408 rfl rfl rfl) rfl eu2413) hUu2417 rfl rfl rfl) hI hH (lv_sub hl [1, 2, 3, 4, 5, 6, 7] rfl)
            exact lp52_2379 7 ls 0 u2104 _ _ (by decide) (by decide) (by have q9 : (0 : Int32).toInt = 0 := (by decide); omega) Un.rf hI hH hl
    exact lp31_2104 8 ls z1205 a3 u _ _ (by have q9 := (show z1205.toInt = (A2 / 10) from hz1205); omega) (by have q9 := (show z1205.toInt = (A2 / 10) from hz1205); omega) (by have q9 := (show z1205.toInt = (A2 / 10) from hz1205); omega) Un.rf hI hH (lv_sub hl [0, 1, 2, 3, 4, 5] rfl)
set_option maxHeartbeats 4000000 in
set_option maxRecDepth 100000 in
theorem kX1_search_0 (l : Launch) (D : va_G) (C : Nat → ClassId) (A : Nat → Nat) (u : St) (hI : IC u) (a2 : Int32) (A2 : Int) (ha2 : a2.toInt = A2) (a3 : Int32) (A3 : Int) (ha3 : a3.toInt = A3) (hl2 : 0 ≤ A2) (hm2 : A2 ≤ 3) (sz : Nat) : MetV l yX1_search cX1_search 6 8 [.ref (A 12), .ref (A 2), .ref (A 7), .int a2, .int a3] D (tyl C) (cw C A) X0 u sz (fun u' => IC u' ∧ Un [(58, 58), (59, 59), (60, 60), (61, 61), (62, 62), (63, 63), (64, 64), (65, 65)] [(43, 43), (44, 44), (45, 45), (46, 46), (47, 47), (91, 139), (140, 160)] [] u u' ∧ True) := by
  refine mV (by decide) (Nat.le_of_ble_eq_true rfl) ?_
  intro p e s m below meth c ls ar Q hx hb hml hown hts hK hH hX hl hret
  have hown : s.vm.findClass RX1 = some m.cls := hown
  have hl : lv_has ls 6 [(0, .ref (A 12)), (1, .ref (A 2)), (2, .ref (A 7)), (3, .int a2), (4, .int a3)] := hl
  refine lv_aload_n hx hb dX1_search_0 rfl (lv_at hl 0 rfl) ?_
  refine lv_aload_n hx hb dX1_search_1 rfl (lv_at hl 1 rfl) ?_
  refine lv_aload_n hx hb dX1_search_2 rfl (lv_at hl 2 rfl) ?_
  refine cvU (n := 2) (As := [.ref (A 2), .ref (A 7)]) (rest := []) ⟨hx, hb, hml, hown, hts⟩ uc_in (kX1_prepare_0 l D C A u hI  _) q_m824 q_n826 q_p25 q_i6 q_c827 hvX1_prepare ⟨(Nat.le_of_ble_eq_true rfl), (Nat.le_of_ble_eq_true rfl)⟩ ⟨(Nat.le_of_ble_eq_true rfl), (Nat.le_of_ble_eq_true rfl)⟩ hK hH (fun q h => Or.inr h) Bl0 (fun _ _ _ => trivial) 1 12 rfl (cwc12 C A u) rfl hl.1 rfl (Nat.le_of_ble_eq_true rfl) dX1_search_3 (fun u1 H locs p3 hH => ?_)
  obtain ⟨hI, hUu1, p3⟩ := p3
  refine lv_aload_n hx hb dX1_search_6 rfl (lv_at hl 0 rfl) ?_
  refine lv_iload hx hb dX1_search_7 (lv_at hl 4 rfl) ?_
  refine r_put (j := 64) (ci := 1) (C := RX1) (T := TX1) (N := 15) hx hb hts (fun w h => uc_in w (inX1 w h)) tyX1 tyX1_ok nmX1 hown hK hH 12 (cwc12 C A u1) rfl 6 (by decide) (hts _ (uc_in _ q_f226)) (fun _ h9 => h9) rfl (by decide +kernel) (Nat.le_of_ble_eq_true rfl) (cws64 C A u1 _) dX1_search_9 (fun u4 eu4 H locs hH => ?_)
  have hI := hI.pi0 eu4 rfl (by decide) (by decide)
  refine lv_aload_n hx hb dX1_search_12 rfl (lv_at hl 0 rfl) ?_
  refine lv_iconst (v := 0) hx hb dX1_search_13 (by decide) ?_
  refine r_put (j := 58) (ci := 1) (C := RX1) (T := TX1) (N := 15) hx hb hts (fun w h => uc_in w (inX1 w h)) tyX1 tyX1_ok nmX1 hown hK hH 12 (cwc12 C A u4) rfl 0 (by decide) (hts _ (uc_in _ q_f217)) (fun _ h9 => h9) rfl (by decide +kernel) (Nat.le_of_ble_eq_true rfl) (cws58 C A u4 _) dX1_search_14 (fun u5 eu5 H locs hH => ?_)
  have hI := hI.pi0 eu5 rfl (by decide) (by decide)
  refine lv_iconst (v := 0) hx hb dX1_search_17 (by decide) ?_
  refine lv_istore (lv' := [(5, .int 0), (0, .ref (A 12)), (1, .ref (A 2)), (2, .ref (A 7)), (3, .int a2), (4, .int a3)]) hx hb dX1_search_18 hl (by decide) rfl (fun ls hl => ?_)
  have lp20_713 : ∀ (n20 : Nat) (ls : Array Slot) (y712d : Int32) (u713 : St) (H : Heap) (locs : List Loc), 0 ≤ y712d.toInt → y712d.toInt ≤ 7 → 7 - y712d.toInt < (n20 : Int) → Un [(58, 58), (59, 59), (60, 60), (65, 65)] [(44, 44), (45, 45), (46, 46), (47, 47), (140, 160)] [] u5 u713 → IC u713 → Hd D (cw C A) (va_A (cw C A u) s.heap.size) s.heap u713 H locs → lv_has ls 6 [(5, .int y712d), (0, .ref (A 12)), (3, .int a2)] → W p l e (rmL 8 0 0) s m ar below meth c H locs 0 0 Q (F0 m 20 ls []) := by
    intro n20
    induction n20 with
    | zero => intro ls y712d u713 H locs ly712d my712d hmun20 hUu713 hI hH hl; exfalso; omega
    | succ n20 ih20_713 =>
      intro ls y712d u713 H locs ly712d my712d hmun20 hUu713 hI hH hl
      refine lv_iload hx hb dX1_search_20 (lv_at hl 0 rfl) ?_
      refine lv_aload_n hx hb dX1_search_22 rfl (lv_at hl 1 rfl) ?_
      refine va_get (ci := 1) (v := .int (gi u713 61)) (C := RX1) (T := TX1) (N := 15) hx hb hts (fun w h => uc_in w (inX1 w h)) hown hK hH.1 12 (cwc12 C A u713) rfl 3 (by decide) (hts _ (uc_in _ q_f223)) (fun _ h9 => h9) rfl dX1_search_23 ?_
      have b715 := hI.b61
      refine lv_icmp_ge (tgt := 51) hx hb dX1_search_26 (by decide) (fun c716 => ?_) (fun c716 => ?_)
      · have c716 := cLE (x := (gi u713 61)) (y := y712d) (X := ((gi u713 61)).toInt) (Y := y712d.toInt) rfl rfl c716
        refine lv_aload_n hx hb dX1_search_51 rfl (lv_at hl 1 rfl) ?_
        refine lv_iconst (v := 0) hx hb dX1_search_52 (by decide) ?_
        refine r_put (j := 59) (ci := 1) (C := RX1) (T := TX1) (N := 15) hx hb hts (fun w h => uc_in w (inX1 w h)) tyX1 tyX1_ok nmX1 hown hK hH 12 (cwc12 C A u713) rfl 1 (by decide) (hts _ (uc_in _ q_f219)) (fun _ h9 => h9) rfl (by decide +kernel) (Nat.le_of_ble_eq_true rfl) (cws59 C A u713 _) dX1_search_53 (fun u717 eu717 H locs hH => ?_)
        have hI := hI.pi0 eu717 rfl (by decide) (by decide)
        refine lv_aload_n hx hb dX1_search_56 rfl (lv_at hl 1 rfl) ?_
        refine lv_iconst (v := (-1)) hx hb dX1_search_57 (by decide) ?_
        refine r_put (j := 60) (ci := 1) (C := RX1) (T := TX1) (N := 15) hx hb hts (fun w h => uc_in w (inX1 w h)) tyX1 tyX1_ok nmX1 hown hK hH 12 (cwc12 C A u717) rfl 2 (by decide) (hts _ (uc_in _ q_f221)) (fun _ h9 => h9) rfl (by decide +kernel) (Nat.le_of_ble_eq_true rfl) (cws60 C A u717 _) dX1_search_58 (fun u718 eu718 H locs hH => ?_)
        have hI := hI.pi0 eu718 rfl (by decide) (by decide)
        refine lv_iconst (v := 1) hx hb dX1_search_61 (by decide) ?_
        refine lv_istore (lv' := [(5, .int 1), (0, .ref (A 12)), (3, .int a2)]) hx hb dX1_search_62 hl (by decide) rfl (fun ls hl => ?_)
        have lp64_802 : ∀ (n64 : Nat) (ls : Array Slot) (y801d : Int32) (u802 : St) (H : Heap) (locs : List Loc), 1 ≤ y801d.toInt → y801d.toInt ≤ 4 → 4 - y801d.toInt < (n64 : Int) → Un [(58, 58), (59, 59), (60, 60), (65, 65)] [(44, 44), (45, 45), (46, 46), (47, 47), (140, 160)] [] u718 u802 → IC u802 → Hd D (cw C A) (va_A (cw C A u) s.heap.size) s.heap u802 H locs → lv_has ls 6 [(5, .int y801d), (0, .ref (A 12)), (3, .int a2)] → W p l e (rmL 8 0 0) s m ar below meth c H locs 0 0 Q (F0 m 64 ls []) := by
          intro n64
          induction n64 with
          | zero => intro ls y801d u802 H locs ly801d my801d hmun64 hUu802 hI hH hl; exfalso; omega
          | succ n64 ih64_802 =>
            intro ls y801d u802 H locs ly801d my801d hmun64 hUu802 hI hH hl
            refine lv_iload hx hb dX1_search_64 (lv_at hl 0 rfl) ?_
            refine lv_iload_n hx hb dX1_search_66 rfl (lv_at hl 2 rfl) ?_
            refine lv_icmp_gt (tgt := 92) hx hb dX1_search_67 (by decide) (fun c804 => ?_) (fun c804 => ?_)
            · have c804 := cLT (x := a2) (y := y801d) (X := A2) (Y := y801d.toInt) ha2 rfl c804
              exact hret _ _ _ _ _ dX1_search_92 ⟨hI, (Un.tr (Un.si (Un.si (Un.tr (Un.si (Un.si (Un.tr Un.rf hUu1 rfl rfl rfl) rfl eu4) rfl eu5) hUu713 rfl rfl rfl) rfl eu717) rfl eu718) hUu802 rfl rfl rfl), trivial⟩ hH
            · have c804 := cNLT (x := a2) (y := y801d) (X := A2) (Y := y801d.toInt) ha2 rfl c804
              refine lv_aload_n hx hb dX1_search_70 rfl (lv_at hl 1 rfl) ?_
              refine va_get (ci := 1) (v := .int (gi u802 58)) (C := RX1) (T := TX1) (N := 15) hx hb hts (fun w h => uc_in w (inX1 w h)) hown hK hH.1 12 (cwc12 C A u802) rfl 0 (by decide) (hts _ (uc_in _ q_f217)) (fun _ h9 => h9) rfl dX1_search_71 ?_
              refine lv_if_le (tgt := 92) hx hb dX1_search_74 (by decide) (fun c805 => ?_) (fun c805 => ?_)
              · have c805 := cLE (x := (gi u802 58)) (y := 0) (X := ((gi u802 58)).toInt) (Y := 0) rfl (by decide) c805
                exact hret _ _ _ _ _ dX1_search_92 ⟨hI, (Un.tr (Un.si (Un.si (Un.tr (Un.si (Un.si (Un.tr Un.rf hUu1 rfl rfl rfl) rfl eu4) rfl eu5) hUu713 rfl rfl rfl) rfl eu717) rfl eu718) hUu802 rfl rfl rfl), trivial⟩ hH
              · have c805 := cNLE (x := (gi u802 58)) (y := 0) (X := ((gi u802 58)).toInt) (Y := 0) rfl (by decide) c805
                refine lv_aload_n hx hb dX1_search_77 rfl (lv_at hl 1 rfl) ?_
                refine lv_iconst (v := 0) hx hb dX1_search_78 (by decide) ?_
                refine lv_iload hx hb dX1_search_79 (lv_at hl 0 rfl) ?_
                refine lv_iconst (v := 0) hx hb dX1_search_81 (by decide) ?_
                refine lv_iconst (v := 0) hx hb dX1_search_82 (by decide) ?_
                refine cvU (n := 4) (As := [.int 0, .int y801d, .int 0, .int 0]) (rest := []) ⟨hx, hb, hml, hown, hts⟩ uc_in (kX1_seek_0 l D C A u802 hI y801d y801d.toInt rfl (0) 0 (by decide) (0) 0 (by decide) (by decide) (by decide) _) q_m840 q_n842 q_p28 q_i6 q_c843 hvX1_seek ⟨(Nat.le_of_ble_eq_true rfl), (Nat.le_of_ble_eq_true rfl)⟩ ⟨(Nat.le_of_ble_eq_true rfl), (Nat.le_of_ble_eq_true rfl)⟩ hK hH (fun q h => Or.inr h) Bl0 (fun _ _ _ => trivial) 1 12 rfl (cwc12 C A u802) rfl hl.1 rfl (Nat.le_of_ble_eq_true rfl) dX1_search_83 (fun u806 H locs p808 hH => ?_)
                obtain ⟨hI, hUu806, p808⟩ := p808
                obtain ⟨z809, ez809⟩ : ∃ z, z = y801d + Int32.ofInt 1 := ⟨_, rfl⟩
                have hz809 : z809.toInt = y801d.toInt + 1 := by rw [ez809]; exact tt_add rfl (by decide) (by omega) (by omega)
                refine lv_iinc (v := z809) (lv' := [(5, .int z809), (0, .ref (A 12)), (3, .int a2)]) hx hb dX1_search_86 hl (k := 0) rfl ez809.symm (by decide) rfl (fun ls hl => ?_)
                refine lv_goto (tgt := 64) hx hb dX1_search_89 (by decide) ?_
                exact ih64_802 ls z809 u806 _ _ (by have q9 := (show z809.toInt = (y801d.toInt + 1) from hz809); omega) (by have q9 := (show z809.toInt = (y801d.toInt + 1) from hz809); omega) (by have q9 := (show z809.toInt = (y801d.toInt + 1) from hz809); omega) (Un.tr hUu802 hUu806 rfl rfl rfl) hI hH hl
        exact lp64_802 4 ls 1 u718 _ _ (by decide) (by decide) (by have q9 : (1 : Int32).toInt = 1 := (by decide); omega) Un.rf hI hH hl
      · have c716 := cNLE (x := (gi u713 61)) (y := y712d) (X := ((gi u713 61)).toInt) (Y := y712d.toInt) rfl rfl c716
        refine lv_aload_n hx hb dX1_search_29 rfl (lv_at hl 1 rfl) ?_
        refine lv_dup hx hb dX1_search_30 rfl ?_
        refine va_get (ci := 1) (v := .int (gi u713 58)) (C := RX1) (T := TX1) (N := 15) hx hb hts (fun w h => uc_in w (inX1 w h)) hown hK hH.1 12 (cwc12 C A u713) rfl 0 (by decide) (hts _ (uc_in _ q_f217)) (fun _ h9 => h9) rfl dX1_search_31 ?_
        refine lv_aload_n hx hb dX1_search_34 rfl (lv_at hl 1 rfl) ?_
        refine lv_iconst (v := 0) hx hb dX1_search_35 (by decide) ?_
        refine lv_iload hx hb dX1_search_36 (lv_at hl 0 rfl) ?_
        refine cvS (n := 2) (As := [.int 0, .int y712d]) (rest := [.int (gi u713 58), .ref (A 12)]) ⟨hx, hb, hml, hown, hts⟩ uc_in (kX1_toll_0 l D C A u713 hI (0) 0 (by decide) y712d y712d.toInt rfl (by decide) (by decide) (by omega) (by omega)) q_m830 q_n832 q_p26 q_i6 q_c833 hvX1_toll ⟨(Nat.le_of_ble_eq_true rfl), (Nat.le_of_ble_eq_true rfl)⟩ ⟨(Nat.le_of_ble_eq_true rfl), (Nat.le_of_ble_eq_true rfl)⟩ hK hH.1 1 12 rfl (cwc12 C A u713) rfl hl.1 rfl (Nat.le_of_ble_eq_true rfl) dX1_search_38 (fun r810 p811 => ?_)
        refine lv_iadd hx hb dX1_search_41 ?_
        refine p_any (fun z812 => ?_)
        refine r_put (j := 58) (ci := 1) (C := RX1) (T := TX1) (N := 15) hx hb hts (fun w h => uc_in w (inX1 w h)) tyX1 tyX1_ok nmX1 hown hK hH 12 (cwc12 C A u713) rfl 0 (by decide) (hts _ (uc_in _ q_f217)) (fun _ h9 => h9) rfl (by decide +kernel) (Nat.le_of_ble_eq_true rfl) (cws58 C A u713 _) dX1_search_42 (fun u813 eu813 H locs hH => ?_)
        have hI := hI.pi0 eu813 rfl (by decide) (by decide)
        obtain ⟨z814, ez814⟩ : ∃ z, z = y712d + Int32.ofInt 1 := ⟨_, rfl⟩
        have hz814 : z814.toInt = y712d.toInt + 1 := by rw [ez814]; exact tt_add rfl (by decide) (by omega) (by omega)
        refine lv_iinc (v := z814) (lv' := [(5, .int z814), (0, .ref (A 12)), (3, .int a2)]) hx hb dX1_search_45 hl (k := 0) rfl ez814.symm (by decide) rfl (fun ls hl => ?_)
        refine lv_goto (tgt := 20) hx hb dX1_search_48 (by decide) ?_
        exact ih20_713 ls z814 u813 _ _ (by have q9 := (show z814.toInt = (y712d.toInt + 1) from hz814); omega) (by have q9 := (show z814.toInt = (y712d.toInt + 1) from hz814); omega) (by have q9 := (show z814.toInt = (y712d.toInt + 1) from hz814); omega) (Un.si hUu713 rfl eu813) hI hH hl
  exact lp20_713 8 ls 0 u5 _ _ (by decide) (by decide) (by have q9 : (0 : Int32).toInt = 0 := (by decide); omega) Un.rf hI hH (lv_sub hl [0, 1, 4] rfl)
set_option maxHeartbeats 4000000 in
set_option maxRecDepth 100000 in
theorem kX9_fewest_0 (l : Launch) (D : va_G) (C : Nat → ClassId) (A : Nat → Nat) (u : St) (hI : IC u) (a0 : Int32) (A0 : Int) (ha0 : a0.toInt = A0) (sz : Nat) : MetI l yX9_fewest cX9_fewest 2 (some .int) 9 [.ref (A 0), .int a0] D (tyl C) (cw C A) X0 u sz (fun r u' => IC u' ∧ Un [(58, 58), (59, 59), (60, 60), (61, 61), (62, 62), (63, 63), (64, 64), (65, 65)] [(43, 43), (44, 44), (45, 45), (46, 46), (47, 47), (91, 139), (140, 160)] [] u u' ∧ (True)) := by
  refine mI (by decide) (Nat.le_of_ble_eq_true rfl) ?_
  intro p e s m below meth c ls ar Q hx hb hml hown hts hK hH hX hl hret
  have hown : s.vm.findClass RX9 = some m.cls := hown
  have hl : lv_has ls 2 [(0, .ref (A 0)), (1, .int a0)] := hl
  refine lv_iload_n hx hb dX9_fewest_0 rfl (lv_at hl 1 rfl) ?_
  refine csS (n := 1) (As := [.int a0]) (rest := []) ⟨hx, hb, hml, hown, hts⟩ uc_in (kX9_isMinute_0 l D C A u hI a0 A0 ha0) q_m762 q_s763 q_i1 q_c764 hvX9_isMinute ⟨(Nat.le_of_ble_eq_true rfl), (Nat.le_of_ble_eq_true rfl)⟩ ⟨(Nat.le_of_ble_eq_true rfl), (Nat.le_of_ble_eq_true rfl)⟩ hK hH.1 rfl hl.1 rfl (Nat.le_of_ble_eq_true rfl) dX9_fewest_1 (fun r1 p2 => ?_)
  rcases p2 with ⟨e9, f3, f4⟩ | e9
  · subst e9
    refine lv_if_eq (tgt := 14) hx hb dX9_fewest_4 (by decide) (fun c5 => absurd c5 (by decide)) (fun c5 => ?_)
    refine lv_aload_n hx hb dX9_fewest_7 rfl (lv_at hl 0 rfl) ?_
    refine cvS (n := 0) (As := []) (rest := []) ⟨hx, hb, hml, hown, hts⟩ uc_in (kX9_hasTown_0 l D C A u hI ) q_m678 q_n680 q_p18 q_i1 q_c681 hvX9_hasTown ⟨(Nat.le_of_ble_eq_true rfl), (Nat.le_of_ble_eq_true rfl)⟩ ⟨(Nat.le_of_ble_eq_true rfl), (Nat.le_of_ble_eq_true rfl)⟩ hK hH.1 9 0 rfl (cwc0 C A u) rfl hl.1 rfl (Nat.le_of_ble_eq_true rfl) dX9_fewest_8 (fun r6 p7 => ?_)
    have p7 : 0 ≤ r6.toInt ∧ r6.toInt ≤ 1 := p7
    refine lv_if_ne (tgt := 17) hx hb dX9_fewest_11 (by decide) (fun c8 => ?_) (fun c8 => ?_)
    · have c8 := cNE (x := r6) (y := 0) (X := r6.toInt) (Y := 0) rfl (by decide) c8
      refine lv_aload_n hx hb dX9_fewest_17 rfl (lv_at hl 0 rfl) ?_
      refine va_get (ci := 9) (v := .ref (A 12)) (C := RX9) (T := TX9) (N := 12) hx hb hts (fun w h => uc_in w (inX9 w h)) hown hK hH.1 0 (cwc0 C A u) rfl 7 (by decide) (hts _ (uc_in _ q_f390)) (fun _ h9 => h9) rfl dX9_fewest_18 ?_
      refine lv_aload_n hx hb dX9_fewest_21 rfl (lv_at hl 0 rfl) ?_
      refine va_get (ci := 9) (v := .ref (A 2)) (C := RX9) (T := TX9) (N := 12) hx hb hts (fun w h => uc_in w (inX9 w h)) hown hK hH.1 0 (cwc0 C A u) rfl 1 (by decide) (hts _ (uc_in _ q_f384)) (fun _ h9 => h9) rfl dX9_fewest_22 ?_
      refine lv_aload_n hx hb dX9_fewest_25 rfl (lv_at hl 0 rfl) ?_
      refine va_get (ci := 9) (v := .ref (A 7)) (C := RX9) (T := TX9) (N := 12) hx hb hts (fun w h => uc_in w (inX9 w h)) hown hK hH.1 0 (cwc0 C A u) rfl 5 (by decide) (hts _ (uc_in _ q_f388)) (fun _ h9 => h9) rfl dX9_fewest_26 ?_
      refine lv_iconst (v := 3) hx hb dX9_fewest_29 (by decide) ?_
      refine lv_iload_n hx hb dX9_fewest_30 rfl (lv_at hl 1 rfl) ?_
      refine cvU (n := 4) (As := [.ref (A 2), .ref (A 7), .int 3, .int a0]) (rest := []) ⟨hx, hb, hml, hown, hts⟩ uc_in (kX1_search_0 l D C A u hI (3) 3 (by decide) a0 A0 ha0 (by decide) (by decide) _) q_m820 q_n821 q_e822 q_i6 q_c823 hvX1_search ⟨(Nat.le_of_ble_eq_true rfl), (Nat.le_of_ble_eq_true rfl)⟩ ⟨(Nat.le_of_ble_eq_true rfl), (Nat.le_of_ble_eq_true rfl)⟩ hK hH (fun q h => Or.inr h) Bl0 (fun _ _ _ => trivial) 1 12 rfl (cwc12 C A u) rfl hl.1 rfl (Nat.le_of_ble_eq_true rfl) dX9_fewest_31 (fun u9 H locs p11 hH => ?_)
      obtain ⟨hI, hUu9, p11⟩ := p11
      refine lv_aload_n hx hb dX9_fewest_34 rfl (lv_at hl 0 rfl) ?_
      refine va_get (ci := 9) (v := .ref (A 12)) (C := RX9) (T := TX9) (N := 12) hx hb hts (fun w h => uc_in w (inX9 w h)) hown hK hH.1 0 (cwc0 C A u9) rfl 7 (by decide) (hts _ (uc_in _ q_f390)) (fun _ h9 => h9) rfl dX9_fewest_35 ?_
      refine va_get (ci := 1) (v := .int (gi u9 58)) (C := RX1) (T := TX1) (N := 15) hx hb hts (fun w h => uc_in w (inX1 w h)) hown hK hH.1 12 (cwc12 C A u9) rfl 0 (by decide) (hts _ (uc_in _ q_f218)) (fun _ h9 => h9) rfl dX9_fewest_38 ?_
      refine lv_if_ne (tgt := 54) hx hb dX9_fewest_41 (by decide) (fun c12 => ?_) (fun c12 => ?_)
      · refine lv_iconst (v := (-1)) hx hb dX9_fewest_54 (by decide) ?_
        exact hret _ _ _ _ ((-1) : Int32) _ dX9_fewest_55 rfl ⟨hI, (Un.tr Un.rf hUu9 rfl rfl rfl), trivial⟩ hH
      · have c12 := cEQ (x := (gi u9 58)) (y := 0) (X := ((gi u9 58)).toInt) (Y := 0) rfl (by decide) c12
        refine lv_aload_n hx hb dX9_fewest_44 rfl (lv_at hl 0 rfl) ?_
        refine va_get (ci := 9) (v := .ref (A 12)) (C := RX9) (T := TX9) (N := 12) hx hb hts (fun w h => uc_in w (inX9 w h)) hown hK hH.1 0 (cwc0 C A u9) rfl 7 (by decide) (hts _ (uc_in _ q_f390)) (fun _ h9 => h9) rfl dX9_fewest_45 ?_
        refine va_get (ci := 1) (v := .int (gi u9 59)) (C := RX1) (T := TX1) (N := 15) hx hb hts (fun w h => uc_in w (inX1 w h)) hown hK hH.1 12 (cwc12 C A u9) rfl 1 (by decide) (hts _ (uc_in _ q_f220)) (fun _ h9 => h9) rfl dX9_fewest_48 ?_
        refine lv_goto (tgt := 55) hx hb dX9_fewest_51 (by decide) ?_
        exact hret _ _ _ _ (gi u9 59) _ dX9_fewest_55 rfl ⟨hI, (Un.tr Un.rf hUu9 rfl rfl rfl), trivial⟩ hH
    · have c8 := cEQ (x := r6) (y := 0) (X := r6.toInt) (Y := 0) rfl (by decide) c8
      refine lv_bipush (v := (-2)) hx hb dX9_fewest_14 (by decide) ?_
      exact hret _ _ _ _ ((-2) : Int32) _ dX9_fewest_16 rfl ⟨hI, Un.rf, trivial⟩ hH
  · subst e9
    refine lv_if_eq (tgt := 14) hx hb dX9_fewest_4 (by decide) (fun c13 => ?_) (fun c13 => absurd c13 (by decide))
    refine lv_bipush (v := (-2)) hx hb dX9_fewest_14 (by decide) ?_
    exact hret _ _ _ _ ((-2) : Int32) _ dX9_fewest_16 rfl ⟨hI, Un.rf, trivial⟩ hH
set_option maxHeartbeats 4000000 in
set_option maxRecDepth 100000 in
theorem kX8_isSeenWith_0 (l : Launch) (D : va_G) (C : Nat → ClassId) (A : Nat → Nat) (u : St) (hI : IC u) (a1 : Int32) (A1 : Int) (ha1 : a1.toInt = A1) (a2 : Int32) (A2 : Int) (ha2 : a2.toInt = A2) : Met l yX8_isSeenWith (uc yX8_isSeenWith cX8_isSeenWith 7 (some .boolean)) (rmL 3 0 0) (va_Pc [.ref (A 15), .ref (A 7), .int a1, .int a2] (PreR D (tyl C) (cw C A u))) (vp_Si (fun r => 0 ≤ r.toInt ∧ r.toInt ≤ 1)) 0 0 (fun _ => False) := by
  refine mS (by decide) (Nat.le_of_ble_eq_true rfl) ?_
  intro p e s m below meth c ls ar Q hx hb hml hown hts hK hP hl hret
  have hown : s.vm.findClass RX8 = some m.cls := hown
  have hl : lv_has ls 7 [(0, .ref (A 15)), (1, .ref (A 7)), (2, .int a1), (3, .int a2)] := hl
  refine lv_iconst (v := 0) hx hb dX8_isSeenWith_0 (by decide) ?_
  refine lv_istore (lv' := [(4, .int 0), (0, .ref (A 15)), (1, .ref (A 7)), (2, .int a1), (3, .int a2)]) hx hb dX8_isSeenWith_1 hl (by decide) rfl (fun ls hl => ?_)
  have lp3_125 : ∀ (n3 : Nat) (ls : Array Slot) (y125d : Int32), 0 ≤ y125d.toInt → y125d.toInt ≤ 30 → 30 - y125d.toInt < (n3 : Int) → lv_has ls 7 [(4, .int y125d), (0, .ref (A 15)), (1, .ref (A 7)), (2, .int a1), (3, .int a2)] → W p l e (rmL 3 0 0) s m ar below meth c s.heap [] 0 0 Q (F0 m 3 ls []) := by
    intro n3
    induction n3 with
    | zero => intro ls y125d ly125d my125d hmun3 hl; exfalso; omega
    | succ n3 ih3_125 =>
      intro ls y125d ly125d my125d hmun3 hl
      refine lv_iload hx hb dX8_isSeenWith_3 (lv_at hl 0 rfl) ?_
      refine lv_aload_n hx hb dX8_isSeenWith_5 rfl (lv_at hl 1 rfl) ?_
      refine va_get (ci := 8) (v := .int (gi u 76)) (C := RX8) (T := TX8) (N := 9) hx hb hts (fun w h => uc_in w (inX8 w h)) hown hK hP 15 (cwc15 C A u) rfl 5 (by decide) (hts _ (uc_in _ q_f338)) (fun _ h9 => h9) rfl dX8_isSeenWith_6 ?_
      have b127 := hI.b76
      refine lv_icmp_ge (tgt := 83) hx hb dX8_isSeenWith_9 (by decide) (fun c128 => ?_) (fun c128 => ?_)
      · have c128 := cLE (x := (gi u 76)) (y := y125d) (X := ((gi u 76)).toInt) (Y := y125d.toInt) rfl rfl c128
        refine lv_iconst (v := 1) hx hb dX8_isSeenWith_83 (by decide) ?_
        exact hret _ _ (1 : Int32) dX8_isSeenWith_84 rfl ⟨by decide, by decide⟩
      · have c128 := cNLE (x := (gi u 76)) (y := y125d) (X := ((gi u 76)).toInt) (Y := y125d.toInt) rfl rfl c128
        refine lv_aload_n hx hb dX8_isSeenWith_12 rfl (lv_at hl 1 rfl) ?_
        refine va_get (ci := 8) (v := .ref (A 50)) (C := RX8) (T := TX8) (N := 9) hx hb hts (fun w h => uc_in w (inX8 w h)) hown hK hP 15 (cwc15 C A u) rfl 6 (by decide) (hts _ (uc_in _ q_f339)) (fun _ h9 => h9) rfl dX8_isSeenWith_13 ?_
        refine lv_iload hx hb dX8_isSeenWith_16 (lv_at hl 0 rfl) ?_
        refine va_iald hx hb hK hP 50 1 (cwc50 C A u) rfl (i_ix rfl (by omega) (by omega)) dX8_isSeenWith_18 ?_
        have b129 : 0 ≤ ((ga u 50 (Int32.toNatClampNeg y125d))).toInt ∧ ((ga u 50 (Int32.toNatClampNeg y125d))).toInt ≤ 6 := hI.a50 _
        refine lv_istore (lv' := [(5, .int (ga u 50 (Int32.toNatClampNeg y125d))), (4, .int y125d), (0, .ref (A 15)), (1, .ref (A 7)), (2, .int a1), (3, .int a2)]) hx hb dX8_isSeenWith_19 hl (by decide) rfl (fun ls hl => ?_)
        refine lv_iload_n hx hb dX8_isSeenWith_21 rfl (lv_at hl 4 rfl) ?_
        refine lv_iload hx hb dX8_isSeenWith_22 (lv_at hl 0 rfl) ?_
        refine lv_iload_n hx hb dX8_isSeenWith_24 rfl (lv_at hl 5 rfl) ?_
        refine lv_imul hx hb dX8_isSeenWith_25 ?_
        refine p_any (fun z130 => ?_)
        refine lv_iadd hx hb dX8_isSeenWith_26 ?_
        refine p_any (fun z131 => ?_)
        refine lv_istore (lv' := [(6, .int z131), (5, .int (ga u 50 (Int32.toNatClampNeg y125d))), (4, .int y125d), (0, .ref (A 15)), (1, .ref (A 7)), (2, .int a1), (3, .int a2)]) hx hb dX8_isSeenWith_27 hl (by decide) rfl (fun ls hl => ?_)
        refine lv_aload_n hx hb dX8_isSeenWith_29 rfl (lv_at hl 4 rfl) ?_
        refine va_get (ci := 5) (v := .ref (A 38)) (C := RX5) (T := TX5) (N := 4) hx hb hts (fun w h => uc_in w (inX5 w h)) hown hK hP 7 (cwc7 C A u) rfl 3 (by decide) (hts _ (uc_in _ q_f174)) (fun _ h9 => h9) rfl dX8_isSeenWith_30 ?_
        refine lv_iload hx hb dX8_isSeenWith_33 (lv_at hl 1 rfl) ?_
        refine va_iald hx hb hK hP 38 1 (cwc38 C A u) rfl (i_ix rfl (by omega) (by omega)) dX8_isSeenWith_35 ?_
        refine p_any (fun z132 => ?_)
        have j63_143 : ∀ (ls : Array Slot) (y139d : Int32), lv_has ls 7 [(6, .int y139d), (4, .int y125d), (0, .ref (A 15)), (1, .ref (A 7)), (2, .int a1), (3, .int a2)] → W p l e (rmL 3 0 0) s m ar below meth c s.heap [] 0 0 Q (F0 m 63 ls []) := by
          intro ls y139d hl
          refine lv_iload hx hb dX8_isSeenWith_63 (lv_at hl 0 rfl) ?_
          refine lv_aload_n hx hb dX8_isSeenWith_65 rfl (lv_at hl 2 rfl) ?_
          refine va_get (ci := 8) (v := .ref (A 51)) (C := RX8) (T := TX8) (N := 9) hx hb hts (fun w h => uc_in w (inX8 w h)) hown hK hP 15 (cwc15 C A u) rfl 7 (by decide) (hts _ (uc_in _ q_f340)) (fun _ h9 => h9) rfl dX8_isSeenWith_66 ?_
          refine lv_iload hx hb dX8_isSeenWith_69 (lv_at hl 1 rfl) ?_
          refine va_iald hx hb hK hP 51 1 (cwc51 C A u) rfl (i_ix rfl (by omega) (by omega)) dX8_isSeenWith_71 ?_
          refine p_any (fun z145 => ?_)
          refine lv_icmp_eq (tgt := 77) hx hb dX8_isSeenWith_72 (by decide) (fun c146 => ?_) (fun c146 => ?_)
          · have c146 := cEQ (x := y139d) (y := z145) (X := y139d.toInt) (Y := z145.toInt) rfl rfl c146
            obtain ⟨z147, ez147⟩ : ∃ z, z = y125d + Int32.ofInt 1 := ⟨_, rfl⟩
            have hz147 : z147.toInt = y125d.toInt + 1 := by rw [ez147]; exact tt_add rfl (by decide) (by omega) (by omega)
            refine lv_iinc (v := z147) (lv' := [(4, .int z147), (6, .int y139d), (0, .ref (A 15)), (1, .ref (A 7)), (2, .int a1), (3, .int a2)]) hx hb dX8_isSeenWith_77 hl (k := 1) rfl ez147.symm (by decide) rfl (fun ls hl => ?_)
            refine lv_goto (tgt := 3) hx hb dX8_isSeenWith_80 (by decide) ?_
            exact ih3_125 ls z147 (by have q9 := (show z147.toInt = (y125d.toInt + 1) from hz147); omega) (by have q9 := (show z147.toInt = (y125d.toInt + 1) from hz147); omega) (by have q9 := (show z147.toInt = (y125d.toInt + 1) from hz147); omega) (lv_sub hl [0, 2, 3, 4, 5] rfl)
          · refine lv_iconst (v := 0) hx hb dX8_isSeenWith_75 (by decide) ?_
            exact hret _ _ (0 : Int32) dX8_isSeenWith_76 rfl ⟨by decide, by decide⟩
        refine lv_if_eq (tgt := 63) hx hb dX8_isSeenWith_36 (by decide) (fun c133 => ?_) (fun c133 => ?_)
        · have c133 := cEQ (x := z132) (y := 0) (X := z132.toInt) (Y := 0) rfl (by decide) c133
          exact j63_143 ls z131 (lv_sub hl [0, 2, 3, 4, 5, 6] rfl)
        · refine lv_iload hx hb dX8_isSeenWith_39 (lv_at hl 0 rfl) ?_
          refine lv_aload_n hx hb dX8_isSeenWith_41 rfl (lv_at hl 4 rfl) ?_
          refine va_get (ci := 5) (v := .ref (A 19)) (C := RX5) (T := TX5) (N := 4) hx hb hts (fun w h => uc_in w (inX5 w h)) hown hK hP 7 (cwc7 C A u) rfl 2 (by decide) (hts _ (uc_in _ q_f170)) (fun _ h9 => h9) rfl dX8_isSeenWith_42 ?_
          refine lv_iload hx hb dX8_isSeenWith_45 (lv_at hl 1 rfl) ?_
          refine r_aald hx hb hK hP 19 6 rfl (cwc19 C A u) rfl (i_ix rfl (by omega) (by omega)) dX8_isSeenWith_47 ?_
          obtain ⟨k148, hk148, ek148⟩ : ∃ k : Nat, (k : Int) = 32 + ((ga u 50 (Int32.toNatClampNeg y125d))).toInt ∧ k = 32 + Int32.toNatClampNeg (ga u 50 (Int32.toNatClampNeg y125d)) := ⟨_, by have q9 := i_cl (x := (ga u 50 (Int32.toNatClampNeg y125d))) (X := ((ga u 50 (Int32.toNatClampNeg y125d))).toInt) rfl (by omega); omega, rfl⟩
          refine pv_v (v := .ref (A (52 + k148))) (by rw [ek148]; rfl) ?_
          refine lv_aload_n hx hb dX8_isSeenWith_48 rfl (lv_at hl 4 rfl) ?_
          refine va_get (ci := 5) (v := .ref (A 38)) (C := RX5) (T := TX5) (N := 4) hx hb hts (fun w h => uc_in w (inX5 w h)) hown hK hP 7 (cwc7 C A u) rfl 3 (by decide) (hts _ (uc_in _ q_f174)) (fun _ h9 => h9) rfl dX8_isSeenWith_49 ?_
          refine lv_iload hx hb dX8_isSeenWith_52 (lv_at hl 1 rfl) ?_
          refine va_iald hx hb hK hP 38 1 (cwc38 C A u) rfl (i_ix rfl (by omega) (by omega)) dX8_isSeenWith_54 ?_
          refine p_any (fun z149 => ?_)
          refine csS (n := 2) (As := [.ref (A (52 + k148)), .int z149]) (rest := [.int z131]) ⟨hx, hb, hml, hown, hts⟩ uc_in (kX5_noonOf_0 l D C A u hI k148 (by omega) z149 z149.toInt rfl) q_m1009 q_s610 q_i4 q_c611 hvX5_noonOf ⟨(Nat.le_of_ble_eq_true rfl), (Nat.le_of_ble_eq_true rfl)⟩ ⟨(Nat.le_of_ble_eq_true rfl), (Nat.le_of_ble_eq_true rfl)⟩ hK hP rfl hl.1 rfl (Nat.le_of_ble_eq_true rfl) dX8_isSeenWith_55 (fun r150 p151 => ?_)
          refine va_mmax hx hb (by rw [hml]; exact hl.1.symm) hown (hts _ (uc_in _ q_m1031)) (hts _ (uc_in _ q_s571)) (hts _ (uc_in _ q_i12)) (hts _ (uc_in _ q_c572)) (Nat.le_of_ble_eq_true rfl) (Nat.le_of_ble_eq_true rfl) (Nat.le_of_ble_eq_true rfl) (Nat.le_of_ble_eq_true rfl) dX8_isSeenWith_58 ?_
          refine p_any (fun z152 => ?_)
          refine lv_istore (lv' := [(6, .int z152), (5, .int (ga u 50 (Int32.toNatClampNeg y125d))), (4, .int y125d), (0, .ref (A 15)), (1, .ref (A 7)), (2, .int a1), (3, .int a2)]) hx hb dX8_isSeenWith_61 hl (by decide) rfl (fun ls hl => ?_)
          exact j63_143 ls z152 (lv_sub hl [0, 2, 3, 4, 5, 6] rfl)
  exact lp3_125 31 ls 0 (by decide) (by decide) (by have q9 : (0 : Int32).toInt = 0 := (by decide); omega) hl
set_option maxHeartbeats 4000000 in
set_option maxRecDepth 100000 in
theorem kX8_searchUnder_0 (l : Launch) (D : va_G) (C : Nat → ClassId) (A : Nat → Nat) (u : St) (hI : IC u) (sz : Nat) : MetV l yX8_searchUnder cX8_searchUnder 4 4 [.ref (A 15), .ref (A 7)] D (tyl C) (cw C A) X0 u sz (fun u' => IC u' ∧ Un [(74, 74), (75, 75)] [] [] u u' ∧ True) := by
  refine mV (by decide) (Nat.le_of_ble_eq_true rfl) ?_
  intro p e s m below meth c ls ar Q hx hb hml hown hts hK hH hX hl hret
  have hown : s.vm.findClass RX8 = some m.cls := hown
  have hl : lv_has ls 4 [(0, .ref (A 15)), (1, .ref (A 7))] := hl
  refine lv_aload_n hx hb dX8_searchUnder_0 rfl (lv_at hl 0 rfl) ?_
  refine lv_iconst (v := 0) hx hb dX8_searchUnder_1 (by decide) ?_
  refine r_put (j := 74) (ci := 8) (C := RX8) (T := TX8) (N := 9) hx hb hts (fun w h => uc_in w (inX8 w h)) tyX8 tyX8_ok nmX8 hown hK hH 15 (cwc15 C A u) rfl 3 (by decide) (hts _ (uc_in _ q_f334)) (fun _ h9 => h9) rfl (by decide +kernel) (Nat.le_of_ble_eq_true rfl) (cws74 C A u _) dX8_searchUnder_2 (fun u1 eu1 H locs hH => ?_)
  have hI := hI.pi0 eu1 rfl (by decide) (by decide)
  refine lv_aload_n hx hb dX8_searchUnder_5 rfl (lv_at hl 0 rfl) ?_
  refine lv_iconst (v := (-1)) hx hb dX8_searchUnder_6 (by decide) ?_
  refine r_put (j := 75) (ci := 8) (C := RX8) (T := TX8) (N := 9) hx hb hts (fun w h => uc_in w (inX8 w h)) tyX8 tyX8_ok nmX8 hown hK hH 15 (cwc15 C A u1) rfl 4 (by decide) (hts _ (uc_in _ q_f336)) (fun _ h9 => h9) rfl (by decide +kernel) (Nat.le_of_ble_eq_true rfl) (cws75 C A u1 _) dX8_searchUnder_7 (fun u2 eu2 H locs hH => ?_)
  have hI := hI.pi0 eu2 rfl (by decide) (by decide)
  refine lv_iconst (v := 0) hx hb dX8_searchUnder_10 (by decide) ?_
  refine lv_istore_n (lv' := [(2, .int 0), (0, .ref (A 15)), (1, .ref (A 7))]) hx hb dX8_searchUnder_11 rfl hl (by decide) rfl (fun ls hl => ?_)
  have lp12_4708 : ∀ (n12 : Nat) (ls : Array Slot) (y4707d : Int32) (u4708 : St) (H : Heap) (locs : List Loc), 0 ≤ y4707d.toInt → y4707d.toInt ≤ 61 → 61 - y4707d.toInt < (n12 : Int) → Un [(74, 74), (75, 75)] [] [] u2 u4708 → IC u4708 → Hd D (cw C A) (va_A (cw C A u) s.heap.size) s.heap u4708 H locs → lv_has ls 4 [(2, .int y4707d), (0, .ref (A 15)), (1, .ref (A 7))] → W p l e (rmL 4 0 0) s m ar below meth c H locs 0 0 Q (F0 m 12 ls []) := by
    intro n12
    induction n12 with
    | zero => intro ls y4707d u4708 H locs ly4707d my4707d hmun12 hUu4708 hI hH hl; exfalso; omega
    | succ n12 ih12_4708 =>
      intro ls y4707d u4708 H locs ly4707d my4707d hmun12 hUu4708 hI hH hl
      refine lv_iload_n hx hb dX8_searchUnder_12 rfl (lv_at hl 0 rfl) ?_
      refine lv_bipush (v := 60) hx hb dX8_searchUnder_13 (by decide) ?_
      refine lv_icmp_gt (tgt := 82) hx hb dX8_searchUnder_15 (by decide) (fun c4710 => ?_) (fun c4710 => ?_)
      · have c4710 := cLT (x := 60) (y := y4707d) (X := 60) (Y := y4707d.toInt) (by decide) rfl c4710
        exact hret _ _ _ _ _ dX8_searchUnder_82 ⟨hI, (Un.tr (Un.si (Un.si Un.rf rfl eu1) rfl eu2) hUu4708 rfl rfl rfl), trivial⟩ hH
      · have c4710 := cNLT (x := 60) (y := y4707d) (X := 60) (Y := y4707d.toInt) (by decide) rfl c4710
        refine lv_iconst (v := 0) hx hb dX8_searchUnder_18 (by decide) ?_
        refine lv_istore_n (lv' := [(3, .int 0), (2, .int y4707d), (0, .ref (A 15)), (1, .ref (A 7))]) hx hb dX8_searchUnder_19 rfl hl (by decide) rfl (fun ls hl => ?_)
        have lp20_4852 : ∀ (n20 : Nat) (ls : Array Slot) (y4851d : Int32) (u4852 : St) (H : Heap) (locs : List Loc), 0 ≤ y4851d.toInt → y4851d.toInt ≤ 10 → 10 - y4851d.toInt < (n20 : Int) → Un [(74, 74), (75, 75)] [] [] u4708 u4852 → IC u4852 → Hd D (cw C A) (va_A (cw C A u) s.heap.size) s.heap u4852 H locs → lv_has ls 4 [(3, .int y4851d), (2, .int y4707d), (0, .ref (A 15)), (1, .ref (A 7))] → W p l e (rmL 4 0 0) s m ar below meth c H locs 0 0 Q (F0 m 20 ls []) := by
          intro n20
          induction n20 with
          | zero => intro ls y4851d u4852 H locs ly4851d my4851d hmun20 hUu4852 hI hH hl; exfalso; omega
          | succ n20 ih20_4852 =>
            intro ls y4851d u4852 H locs ly4851d my4851d hmun20 hUu4852 hI hH hl
            refine lv_iload_n hx hb dX8_searchUnder_20 rfl (lv_at hl 0 rfl) ?_
            refine lv_bipush (v := 9) hx hb dX8_searchUnder_21 (by decide) ?_
            refine lv_icmp_gt (tgt := 76) hx hb dX8_searchUnder_23 (by decide) (fun c4854 => ?_) (fun c4854 => ?_)
            · have c4854 := cLT (x := 9) (y := y4851d) (X := 9) (Y := y4851d.toInt) (by decide) rfl c4854
              obtain ⟨z4855, ez4855⟩ : ∃ z, z = y4707d + Int32.ofInt 1 := ⟨_, rfl⟩
              have hz4855 : z4855.toInt = y4707d.toInt + 1 := by rw [ez4855]; exact tt_add rfl (by decide) (by omega) (by omega)
              refine lv_iinc (v := z4855) (lv' := [(2, .int z4855), (3, .int y4851d), (0, .ref (A 15)), (1, .ref (A 7))]) hx hb dX8_searchUnder_76 hl (k := 1) rfl ez4855.symm (by decide) rfl (fun ls hl => ?_)
              refine lv_goto (tgt := 12) hx hb dX8_searchUnder_79 (by decide) ?_
              exact ih12_4708 ls z4855 u4852 _ _ (by have q9 := (show z4855.toInt = (y4707d.toInt + 1) from hz4855); omega) (by have q9 := (show z4855.toInt = (y4707d.toInt + 1) from hz4855); omega) (by have q9 := (show z4855.toInt = (y4707d.toInt + 1) from hz4855); omega) (Un.tr hUu4708 hUu4852 rfl rfl rfl) hI hH (lv_sub hl [0, 2, 3] rfl)
            · have c4854 := cNLT (x := 9) (y := y4851d) (X := 9) (Y := y4851d.toInt) (by decide) rfl c4854
              refine lv_aload_n hx hb dX8_searchUnder_26 rfl (lv_at hl 2 rfl) ?_
              refine lv_aload_n hx hb dX8_searchUnder_27 rfl (lv_at hl 3 rfl) ?_
              refine lv_iload_n hx hb dX8_searchUnder_28 rfl (lv_at hl 1 rfl) ?_
              refine lv_iload_n hx hb dX8_searchUnder_29 rfl (lv_at hl 0 rfl) ?_
              refine cvS (n := 3) (As := [.ref (A 7), .int y4707d, .int y4851d]) (rest := []) ⟨hx, hb, hml, hown, hts⟩ uc_in (kX8_isSeenWith_0 l D C A u4852 hI y4707d y4707d.toInt rfl y4851d y4851d.toInt rfl) q_m1044 q_n1046 q_p45 q_i9 q_c1047 hvX8_isSeenWith ⟨(Nat.le_of_ble_eq_true rfl), (Nat.le_of_ble_eq_true rfl)⟩ ⟨(Nat.le_of_ble_eq_true rfl), (Nat.le_of_ble_eq_true rfl)⟩ hK hH.1 8 15 rfl (cwc15 C A u4852) rfl hl.1 rfl (Nat.le_of_ble_eq_true rfl) dX8_searchUnder_30 (fun r4856 p4857 => ?_)
              have p4857 : 0 ≤ r4856.toInt ∧ r4856.toInt ≤ 1 := p4857
              have j70_4869 : ∀ (ls : Array Slot) (u4869 : St) (H : Heap) (locs : List Loc), Un [(74, 74), (75, 75)] [] [] u4852 u4869 → IC u4869 → Hd D (cw C A) (va_A (cw C A u) s.heap.size) s.heap u4869 H locs → lv_has ls 4 [(3, .int y4851d), (2, .int y4707d), (0, .ref (A 15)), (1, .ref (A 7))] → W p l e (rmL 4 0 0) s m ar below meth c H locs 0 0 Q (F0 m 70 ls []) := by
                intro ls u4869 H locs hUu4869 hI hH hl
                obtain ⟨z4871, ez4871⟩ : ∃ z, z = y4851d + Int32.ofInt 1 := ⟨_, rfl⟩
                have hz4871 : z4871.toInt = y4851d.toInt + 1 := by rw [ez4871]; exact tt_add rfl (by decide) (by omega) (by omega)
                refine lv_iinc (v := z4871) (lv' := [(3, .int z4871), (2, .int y4707d), (0, .ref (A 15)), (1, .ref (A 7))]) hx hb dX8_searchUnder_70 hl (k := 0) rfl ez4871.symm (by decide) rfl (fun ls hl => ?_)
                refine lv_goto (tgt := 20) hx hb dX8_searchUnder_73 (by decide) ?_
                exact ih20_4852 ls z4871 u4869 _ _ (by have q9 := (show z4871.toInt = (y4851d.toInt + 1) from hz4871); omega) (by have q9 := (show z4871.toInt = (y4851d.toInt + 1) from hz4871); omega) (by have q9 := (show z4871.toInt = (y4851d.toInt + 1) from hz4871); omega) (Un.tr hUu4852 hUu4869 rfl rfl rfl) hI hH hl
              refine lv_if_eq (tgt := 70) hx hb dX8_searchUnder_33 (by decide) (fun c4858 => ?_) (fun c4858 => ?_)
              · have c4858 := cEQ (x := r4856) (y := 0) (X := r4856.toInt) (Y := 0) rfl (by decide) c4858
                exact j70_4869 ls u4852 _ _ Un.rf hI hH hl
              · have c4858 := cNE (x := r4856) (y := 0) (X := r4856.toInt) (Y := 0) rfl (by decide) c4858
                refine lv_aload_n hx hb dX8_searchUnder_36 rfl (lv_at hl 2 rfl) ?_
                refine lv_aload_n hx hb dX8_searchUnder_37 rfl (lv_at hl 2 rfl) ?_
                refine va_get (ci := 8) (v := .int (gi u4852 74)) (C := RX8) (T := TX8) (N := 9) hx hb hts (fun w h => uc_in w (inX8 w h)) hown hK hH.1 15 (cwc15 C A u4852) rfl 3 (by decide) (hts _ (uc_in _ q_f334)) (fun _ h9 => h9) rfl dX8_searchUnder_38 ?_
                have j57_4879 : ∀ (ls : Array Slot) (y4875d : Int32), lv_has ls 4 [(3, .int y4851d), (2, .int y4707d), (0, .ref (A 15)), (1, .ref (A 7))] → W p l e (rmL 4 0 0) s m ar below meth c H locs 0 0 Q (F0 m 57 ls [.int y4875d, .ref (A 15)]) := by
                  intro ls y4875d hl
                  refine r_put (j := 75) (ci := 8) (C := RX8) (T := TX8) (N := 9) hx hb hts (fun w h => uc_in w (inX8 w h)) tyX8 tyX8_ok nmX8 hown hK hH 15 (cwc15 C A u4852) rfl 4 (by decide) (hts _ (uc_in _ q_f336)) (fun _ h9 => h9) rfl (by decide +kernel) (Nat.le_of_ble_eq_true rfl) (cws75 C A u4852 _) dX8_searchUnder_57 (fun u4881 eu4881 H locs hH => ?_)
                  have hI := hI.pi0 eu4881 rfl (by decide) (by decide)
                  refine lv_aload_n hx hb dX8_searchUnder_60 rfl (lv_at hl 2 rfl) ?_
                  refine lv_dup hx hb dX8_searchUnder_61 rfl ?_
                  refine va_get (ci := 8) (v := .int (gi u4881 74)) (C := RX8) (T := TX8) (N := 9) hx hb hts (fun w h => uc_in w (inX8 w h)) hown hK hH.1 15 (cwc15 C A u4881) rfl 3 (by decide) (hts _ (uc_in _ q_f334)) (fun _ h9 => h9) rfl dX8_searchUnder_62 ?_
                  refine pv_i (v := (gi u4852 74)) ((gi_ne eu4881 (by decide)).trans rfl) ?_
                  refine lv_iconst (v := 1) hx hb dX8_searchUnder_65 (by decide) ?_
                  refine lv_iadd hx hb dX8_searchUnder_66 ?_
                  refine p_any (fun z4882 => ?_)
                  refine r_put (j := 74) (ci := 8) (C := RX8) (T := TX8) (N := 9) hx hb hts (fun w h => uc_in w (inX8 w h)) tyX8 tyX8_ok nmX8 hown hK hH 15 (cwc15 C A u4881) rfl 3 (by decide) (hts _ (uc_in _ q_f334)) (fun _ h9 => h9) rfl (by decide +kernel) (Nat.le_of_ble_eq_true rfl) (cws74 C A u4881 _) dX8_searchUnder_67 (fun u4883 eu4883 H locs hH => ?_)
                  have hI := hI.pi0 eu4883 rfl (by decide) (by decide)
                  exact j70_4869 ls u4883 _ _ (Un.si (Un.si Un.rf rfl eu4881) rfl eu4883) hI hH hl
                refine lv_if_ne (tgt := 53) hx hb dX8_searchUnder_41 (by decide) (fun c4872 => ?_) (fun c4872 => ?_)
                · refine lv_aload_n hx hb dX8_searchUnder_53 rfl (lv_at hl 2 rfl) ?_
                  refine va_get (ci := 8) (v := .int (gi u4852 75)) (C := RX8) (T := TX8) (N := 9) hx hb hts (fun w h => uc_in w (inX8 w h)) hown hK hH.1 15 (cwc15 C A u4852) rfl 4 (by decide) (hts _ (uc_in _ q_f336)) (fun _ h9 => h9) rfl dX8_searchUnder_54 ?_
                  exact j57_4879 ls (gi u4852 75) hl
                · have c4872 := cEQ (x := (gi u4852 74)) (y := 0) (X := ((gi u4852 74)).toInt) (Y := 0) rfl (by decide) c4872
                  refine lv_bipush (v := 10) hx hb dX8_searchUnder_44 (by decide) ?_
                  refine lv_iload_n hx hb dX8_searchUnder_46 rfl (lv_at hl 1 rfl) ?_
                  refine lv_imul hx hb dX8_searchUnder_47 ?_
                  refine p_nm (tt_mul (X := 10) (Y := y4707d.toInt) (by decide) rfl (by omega) (by omega)) (fun z4884 hz4884 => ?_)
                  refine lv_iload_n hx hb dX8_searchUnder_48 rfl (lv_at hl 0 rfl) ?_
                  refine lv_iadd hx hb dX8_searchUnder_49 ?_
                  refine p_nm (tt_add (X := (10 * y4707d.toInt)) (Y := y4851d.toInt) hz4884 rfl (by omega) (by omega)) (fun z4885 hz4885 => ?_)
                  refine lv_goto (tgt := 57) hx hb dX8_searchUnder_50 (by decide) ?_
                  exact j57_4879 ls z4885 hl
        exact lp20_4852 11 ls 0 u4708 _ _ (by decide) (by decide) (by have q9 : (0 : Int32).toInt = 0 := (by decide); omega) Un.rf hI hH hl
  exact lp12_4708 62 ls 0 u2 _ _ (by decide) (by decide) (by have q9 : (0 : Int32).toInt = 0 := (by decide); omega) Un.rf hI hH hl
set_option maxHeartbeats 4000000 in
set_option maxRecDepth 100000 in
theorem kX9_seekUnder_0 (l : Launch) (D : va_G) (C : Nat → ClassId) (A : Nat → Nat) (u : St) (hI : IC u) (a0 : Int32) (A0 : Int) (ha0 : a0.toInt = A0) (sz : Nat) : MetI l yX9_seekUnder cX9_seekUnder 3 (some .int) 5 [.ref (A 0), .int a0] D (tyl C) (cw C A) X0 u sz (fun r u' => IC u' ∧ Un [(74, 74), (75, 75), (76, 76)] [(50, 50), (51, 51)] [] u u' ∧ ((-6) ≤ r.toInt ∧ r.toInt ≤ 0)) := by
  refine mI (by decide) (Nat.le_of_ble_eq_true rfl) ?_
  intro p e s m below meth c ls ar Q hx hb hml hown hts hK hH hX hl hret
  have hown : s.vm.findClass RX9 = some m.cls := hown
  have hl : lv_has ls 3 [(0, .ref (A 0)), (1, .int a0)] := hl
  refine lv_aload_n hx hb dX9_seekUnder_0 rfl (lv_at hl 0 rfl) ?_
  refine lv_iload_n hx hb dX9_seekUnder_1 rfl (lv_at hl 1 rfl) ?_
  refine cvI (n := 1) (As := [.int a0]) (rest := []) ⟨hx, hb, hml, hown, hts⟩ uc_in (kX9_hear_0 l D C A u hI a0 A0 ha0 _) q_m991 q_n993 q_p41 q_i1 q_c994 hvX9_hear ⟨(Nat.le_of_ble_eq_true rfl), (Nat.le_of_ble_eq_true rfl)⟩ ⟨(Nat.le_of_ble_eq_true rfl), (Nat.le_of_ble_eq_true rfl)⟩ hK hH (fun q h => Or.inr h) Bl0 (fun _ _ _ => trivial) 9 0 rfl (cwc0 C A u) rfl hl.1 rfl (Nat.le_of_ble_eq_true rfl) dX9_seekUnder_2 (fun r2 u1 H locs p3 hH => ?_)
  obtain ⟨hI, hUu1, p3⟩ := p3
  have p3 : (-6) ≤ r2.toInt ∧ r2.toInt ≤ 0 := p3
  refine lv_istore_n (lv' := [(2, .int r2), (0, .ref (A 0)), (1, .int a0)]) hx hb dX9_seekUnder_5 rfl hl (by decide) rfl (fun ls hl => ?_)
  refine lv_iload_n hx hb dX9_seekUnder_6 rfl (lv_at hl 0 rfl) ?_
  refine lv_if_ne (tgt := 21) hx hb dX9_seekUnder_7 (by decide) (fun c4 => ?_) (fun c4 => ?_)
  · have c4 := cNE (x := r2) (y := 0) (X := r2.toInt) (Y := 0) rfl (by decide) c4
    refine lv_iload_n hx hb dX9_seekUnder_21 rfl (lv_at hl 0 rfl) ?_
    exact hret _ _ _ _ r2 _ dX9_seekUnder_22 rfl ⟨hI, (Un.tr Un.rf hUu1 rfl rfl rfl), ⟨by omega, by omega⟩⟩ hH
  · have c4 := cEQ (x := r2) (y := 0) (X := r2.toInt) (Y := 0) rfl (by decide) c4
    refine lv_aload_n hx hb dX9_seekUnder_10 rfl (lv_at hl 1 rfl) ?_
    refine va_get (ci := 9) (v := .ref (A 15)) (C := RX9) (T := TX9) (N := 12) hx hb hts (fun w h => uc_in w (inX9 w h)) hown hK hH.1 0 (cwc0 C A u1) rfl 10 (by decide) (hts _ (uc_in _ q_f393)) (fun _ h9 => h9) rfl dX9_seekUnder_11 ?_
    refine lv_aload_n hx hb dX9_seekUnder_14 rfl (lv_at hl 1 rfl) ?_
    refine va_get (ci := 9) (v := .ref (A 7)) (C := RX9) (T := TX9) (N := 12) hx hb hts (fun w h => uc_in w (inX9 w h)) hown hK hH.1 0 (cwc0 C A u1) rfl 5 (by decide) (hts _ (uc_in _ q_f388)) (fun _ h9 => h9) rfl dX9_seekUnder_15 ?_
    refine cvU (n := 1) (As := [.ref (A 7)]) (rest := []) ⟨hx, hb, hml, hown, hts⟩ uc_in (kX8_searchUnder_0 l D C A u1 hI  _) q_m1040 q_n1041 q_e1042 q_i9 q_c1043 hvX8_searchUnder ⟨(Nat.le_of_ble_eq_true rfl), (Nat.le_of_ble_eq_true rfl)⟩ ⟨(Nat.le_of_ble_eq_true rfl), (Nat.le_of_ble_eq_true rfl)⟩ hK hH (fun q h => Or.inr h) Bl0 (fun _ _ _ => trivial) 8 15 rfl (cwc15 C A u1) rfl hl.1 rfl (Nat.le_of_ble_eq_true rfl) dX9_seekUnder_18 (fun u5 H locs p7 hH => ?_)
    obtain ⟨hI, hUu5, p7⟩ := p7
    refine lv_iload_n hx hb dX9_seekUnder_21 rfl (lv_at hl 0 rfl) ?_
    exact hret _ _ _ _ r2 _ dX9_seekUnder_22 rfl ⟨hI, (Un.tr (Un.tr Un.rf hUu1 rfl rfl rfl) hUu5 rfl rfl rfl), ⟨by omega, by omega⟩⟩ hH
set_option maxHeartbeats 4000000 in
set_option maxRecDepth 100000 in
theorem kX9_floor_0 (l : Launch) (D : va_G) (C : Nat → ClassId) (A : Nat → Nat) (u : St) (hI : IC u) (a0 : Int32) (A0 : Int) (ha0 : a0.toInt = A0) (sz : Nat) : MetI l yX9_floor cX9_floor 3 (some .int) 6 [.ref (A 0), .int a0] D (tyl C) (cw C A) X0 u sz (fun r u' => IC u' ∧ Un [(74, 74), (75, 75), (76, 76)] [(50, 50), (51, 51)] [] u u' ∧ (True)) := by
  refine mI (by decide) (Nat.le_of_ble_eq_true rfl) ?_
  intro p e s m below meth c ls ar Q hx hb hml hown hts hK hH hX hl hret
  have hown : s.vm.findClass RX9 = some m.cls := hown
  have hl : lv_has ls 3 [(0, .ref (A 0)), (1, .int a0)] := hl
  refine lv_aload_n hx hb dX9_floor_0 rfl (lv_at hl 0 rfl) ?_
  refine lv_iload_n hx hb dX9_floor_1 rfl (lv_at hl 1 rfl) ?_
  refine cvI (n := 1) (As := [.int a0]) (rest := []) ⟨hx, hb, hml, hown, hts⟩ uc_in (kX9_seekUnder_0 l D C A u hI a0 A0 ha0 _) q_m1036 q_n1038 q_p44 q_i1 q_c1039 hvX9_seekUnder ⟨(Nat.le_of_ble_eq_true rfl), (Nat.le_of_ble_eq_true rfl)⟩ ⟨(Nat.le_of_ble_eq_true rfl), (Nat.le_of_ble_eq_true rfl)⟩ hK hH (fun q h => Or.inr h) Bl0 (fun _ _ _ => trivial) 9 0 rfl (cwc0 C A u) rfl hl.1 rfl (Nat.le_of_ble_eq_true rfl) dX9_floor_2 (fun r2 u1 H locs p3 hH => ?_)
  obtain ⟨hI, hUu1, p3⟩ := p3
  have p3 : (-6) ≤ r2.toInt ∧ r2.toInt ≤ 0 := p3
  refine lv_istore_n (lv' := [(2, .int r2), (0, .ref (A 0)), (1, .int a0)]) hx hb dX9_floor_5 rfl hl (by decide) rfl (fun ls hl => ?_)
  refine lv_iload_n hx hb dX9_floor_6 rfl (lv_at hl 0 rfl) ?_
  refine lv_if_ne (tgt := 20) hx hb dX9_floor_7 (by decide) (fun c4 => ?_) (fun c4 => ?_)
  · have c4 := cNE (x := r2) (y := 0) (X := r2.toInt) (Y := 0) rfl (by decide) c4
    refine lv_iload_n hx hb dX9_floor_20 rfl (lv_at hl 0 rfl) ?_
    exact hret _ _ _ _ r2 _ dX9_floor_21 rfl ⟨hI, (Un.tr Un.rf hUu1 rfl rfl rfl), trivial⟩ hH
  · have c4 := cEQ (x := r2) (y := 0) (X := r2.toInt) (Y := 0) rfl (by decide) c4
    refine lv_aload_n hx hb dX9_floor_10 rfl (lv_at hl 1 rfl) ?_
    refine va_get (ci := 9) (v := .ref (A 15)) (C := RX9) (T := TX9) (N := 12) hx hb hts (fun w h => uc_in w (inX9 w h)) hown hK hH.1 0 (cwc0 C A u1) rfl 10 (by decide) (hts _ (uc_in _ q_f393)) (fun _ h9 => h9) rfl dX9_floor_11 ?_
    refine va_get (ci := 8) (v := .int (gi u1 75)) (C := RX8) (T := TX8) (N := 9) hx hb hts (fun w h => uc_in w (inX8 w h)) hown hK hH.1 15 (cwc15 C A u1) rfl 4 (by decide) (hts _ (uc_in _ q_f337)) (fun _ h9 => h9) rfl dX9_floor_14 ?_
    refine lv_goto (tgt := 21) hx hb dX9_floor_17 (by decide) ?_
    exact hret _ _ _ _ (gi u1 75) _ dX9_floor_21 rfl ⟨hI, (Un.tr Un.rf hUu1 rfl rfl rfl), trivial⟩ hH
set_option maxHeartbeats 4000000 in
set_option maxRecDepth 100000 in
theorem kX9_withoutSlowest_0 (l : Launch) (D : va_G) (C : Nat → ClassId) (A : Nat → Nat) (u : St) (hI : IC u) (a0 : Int32) (A0 : Int) (ha0 : a0.toInt = A0) (hl0 : 0 ≤ A0) (hm0 : A0 ≤ 6) : Met l yX9_withoutSlowest (uc yX9_withoutSlowest cX9_withoutSlowest 3 (some .int)) (rmL 3 0 0) (va_Pc [.ref (A 0), .int a0] (PreR D (tyl C) (cw C A u))) (vp_Si (fun r => True)) 0 0 (fun _ => False) := by
  refine mS (by decide) (Nat.le_of_ble_eq_true rfl) ?_
  intro p e s m below meth c ls ar Q hx hb hml hown hts hK hP hl hret
  have hown : s.vm.findClass RX9 = some m.cls := hown
  have hl : lv_has ls 3 [(0, .ref (A 0)), (1, .int a0)] := hl
  refine lv_aload_n hx hb dX9_withoutSlowest_0 rfl (lv_at hl 0 rfl) ?_
  refine lv_iload_n hx hb dX9_withoutSlowest_1 rfl (lv_at hl 1 rfl) ?_
  refine cvS (n := 1) (As := [.int a0]) (rest := []) ⟨hx, hb, hml, hown, hts⟩ uc_in (kX9_slowestOn_0 l D C A u hI a0 A0 ha0 (by omega) (by omega)) q_m623 q_n625 q_p14 q_i1 q_c626 hvX9_slowestOn ⟨(Nat.le_of_ble_eq_true rfl), (Nat.le_of_ble_eq_true rfl)⟩ ⟨(Nat.le_of_ble_eq_true rfl), (Nat.le_of_ble_eq_true rfl)⟩ hK hP 9 0 rfl (cwc0 C A u) rfl hl.1 rfl (Nat.le_of_ble_eq_true rfl) dX9_withoutSlowest_2 (fun r1 p2 => ?_)
  have p2 : (-1) ≤ r1.toInt ∧ r1.toInt ≤ 5 := p2
  refine lv_istore_n (lv' := [(2, .int r1), (0, .ref (A 0)), (1, .int a0)]) hx hb dX9_withoutSlowest_5 rfl hl (by decide) rfl (fun ls hl => ?_)
  refine lv_iload_n hx hb dX9_withoutSlowest_6 rfl (lv_at hl 0 rfl) ?_
  refine lv_iconst (v := (-1)) hx hb dX9_withoutSlowest_7 (by decide) ?_
  refine lv_icmp_ne (tgt := 15) hx hb dX9_withoutSlowest_8 (by decide) (fun c3 => ?_) (fun c3 => ?_)
  · have c3 := cNE (x := r1) (y := (-1)) (X := r1.toInt) (Y := (-1)) rfl (by decide) c3
    refine lv_aload_n hx hb dX9_withoutSlowest_15 rfl (lv_at hl 1 rfl) ?_
    refine va_get (ci := 9) (v := .ref (A 7)) (C := RX9) (T := TX9) (N := 12) hx hb hts (fun w h => uc_in w (inX9 w h)) hown hK hP 0 (cwc0 C A u) rfl 5 (by decide) (hts _ (uc_in _ q_f388)) (fun _ h9 => h9) rfl dX9_withoutSlowest_16 ?_
    refine va_get (ci := 5) (v := .ref (A 38)) (C := RX5) (T := TX5) (N := 4) hx hb hts (fun w h => uc_in w (inX5 w h)) hown hK hP 7 (cwc7 C A u) rfl 3 (by decide) (hts _ (uc_in _ q_f175)) (fun _ h9 => h9) rfl dX9_withoutSlowest_19 ?_
    refine lv_iload_n hx hb dX9_withoutSlowest_22 rfl (lv_at hl 2 rfl) ?_
    refine va_iald hx hb hK hP 38 1 (cwc38 C A u) rfl (i_ix ha0 (by omega) (by omega)) dX9_withoutSlowest_23 ?_
    refine p_any (fun z4 => ?_)
    refine lv_iconst (v := 1) hx hb dX9_withoutSlowest_24 (by decide) ?_
    refine lv_iload_n hx hb dX9_withoutSlowest_25 rfl (lv_at hl 0 rfl) ?_
    refine lv_ishl hx hb dX9_withoutSlowest_26 ?_
    have gz5 := tt_shl1 (y := r1) (Y := r1.toInt) rfl (by omega) (by omega)
    refine p_bd (P := fun q => 1 ≤ q ∧ q ≤ 32) ⟨by omega, by omega⟩ (fun z6 bz6 => ?_)
    have bz6 : 1 ≤ z6.toInt ∧ z6.toInt ≤ 32 := bz6
    refine lv_iconst (v := (-1)) hx hb dX9_withoutSlowest_27 (by decide) ?_
    refine lv_ixor hx hb dX9_withoutSlowest_28 ?_
    refine p_any (fun z7 => ?_)
    refine lv_iand hx hb dX9_withoutSlowest_29 ?_
    refine p_any (fun z8 => ?_)
    exact hret _ _ z8 dX9_withoutSlowest_30 rfl trivial
  · have c3 := cEQ (x := r1) (y := (-1)) (X := r1.toInt) (Y := (-1)) rfl (by decide) c3
    refine lv_iconst (v := 0) hx hb dX9_withoutSlowest_11 (by decide) ?_
    refine lv_goto (tgt := 30) hx hb dX9_withoutSlowest_12 (by decide) ?_
    exact hret _ _ (0 : Int32) dX9_withoutSlowest_30 rfl trivial
set_option maxHeartbeats 4000000 in
set_option maxRecDepth 100000 in
theorem kX9_gap_0 (l : Launch) (D : va_G) (C : Nat → ClassId) (A : Nat → Nat) (u : St) (hI : IC u) (a0 : Int32) (A0 : Int) (ha0 : a0.toInt = A0) : Met l yX9_gap (uc yX9_gap cX9_gap 4 (some .int)) (rmL 4 0 0) (va_Pc [.ref (A 0), .int a0] (PreR D (tyl C) (cw C A u))) (vp_Si (fun r => True)) 0 0 (fun _ => False) := by
  refine mS (by decide) (Nat.le_of_ble_eq_true rfl) ?_
  intro p e s m below meth c ls ar Q hx hb hml hown hts hK hP hl hret
  have hown : s.vm.findClass RX9 = some m.cls := hown
  have hl : lv_has ls 4 [(0, .ref (A 0)), (1, .int a0)] := hl
  refine lv_aload_n hx hb dX9_gap_0 rfl (lv_at hl 0 rfl) ?_
  refine lv_iload_n hx hb dX9_gap_1 rfl (lv_at hl 1 rfl) ?_
  refine cvS (n := 1) (As := [.int a0]) (rest := []) ⟨hx, hb, hml, hown, hts⟩ uc_in (kX9_isDay_0 l D C A u hI a0 A0 ha0) q_m597 q_n599 q_p12 q_i1 q_c600 hvX9_isDay ⟨(Nat.le_of_ble_eq_true rfl), (Nat.le_of_ble_eq_true rfl)⟩ ⟨(Nat.le_of_ble_eq_true rfl), (Nat.le_of_ble_eq_true rfl)⟩ hK hP 9 0 rfl (cwc0 C A u) rfl hl.1 rfl (Nat.le_of_ble_eq_true rfl) dX9_gap_2 (fun r1 p2 => ?_)
  rcases p2 with ⟨e9, f3, f4⟩ | e9
  · subst e9
    have b6 := hI.b48
    refine lv_if_ne (tgt := 11) hx hb dX9_gap_5 (by decide) (fun c7 => ?_) (fun c7 => absurd c7 (by decide))
    refine lv_aload_n hx hb dX9_gap_11 rfl (lv_at hl 0 rfl) ?_
    refine va_get (ci := 9) (v := .ref (A 7)) (C := RX9) (T := TX9) (N := 12) hx hb hts (fun w h => uc_in w (inX9 w h)) hown hK hP 0 (cwc0 C A u) rfl 5 (by decide) (hts _ (uc_in _ q_f388)) (fun _ h9 => h9) rfl dX9_gap_12 ?_
    refine va_get (ci := 5) (v := .ref (A 38)) (C := RX5) (T := TX5) (N := 4) hx hb hts (fun w h => uc_in w (inX5 w h)) hown hK hP 7 (cwc7 C A u) rfl 3 (by decide) (hts _ (uc_in _ q_f175)) (fun _ h9 => h9) rfl dX9_gap_15 ?_
    refine lv_iload_n hx hb dX9_gap_18 rfl (lv_at hl 1 rfl) ?_
    refine va_iald hx hb hK hP 38 1 (cwc38 C A u) rfl (i_ix ha0 (by omega) (by omega)) dX9_gap_19 ?_
    refine p_any (fun z8 => ?_)
    refine lv_if_ne (tgt := 25) hx hb dX9_gap_20 (by decide) (fun c9 => ?_) (fun c9 => ?_)
    · refine lv_aload_n hx hb dX9_gap_25 rfl (lv_at hl 0 rfl) ?_
      refine lv_iload_n hx hb dX9_gap_26 rfl (lv_at hl 1 rfl) ?_
      refine cvS (n := 1) (As := [.int a0]) (rest := []) ⟨hx, hb, hml, hown, hts⟩ uc_in (kX9_noonOn_0 l D C A u hI a0 A0 ha0 (by omega) (by omega)) q_m605 q_n607 q_p13 q_i1 q_c608 hvX9_noonOn ⟨(Nat.le_of_ble_eq_true rfl), (Nat.le_of_ble_eq_true rfl)⟩ ⟨(Nat.le_of_ble_eq_true rfl), (Nat.le_of_ble_eq_true rfl)⟩ hK hP 9 0 rfl (cwc0 C A u) rfl hl.1 rfl (Nat.le_of_ble_eq_true rfl) dX9_gap_27 (fun r10 p11 => ?_)
      refine lv_istore_n (lv' := [(2, .int r10), (0, .ref (A 0)), (1, .int a0)]) hx hb dX9_gap_30 rfl hl (by decide) rfl (fun ls hl => ?_)
      refine lv_aload_n hx hb dX9_gap_31 rfl (lv_at hl 1 rfl) ?_
      refine va_get (ci := 9) (v := .ref (A 7)) (C := RX9) (T := TX9) (N := 12) hx hb hts (fun w h => uc_in w (inX9 w h)) hown hK hP 0 (cwc0 C A u) rfl 5 (by decide) (hts _ (uc_in _ q_f388)) (fun _ h9 => h9) rfl dX9_gap_32 ?_
      refine va_get (ci := 5) (v := .ref (A 19)) (C := RX5) (T := TX5) (N := 4) hx hb hts (fun w h => uc_in w (inX5 w h)) hown hK hP 7 (cwc7 C A u) rfl 2 (by decide) (hts _ (uc_in _ q_f171)) (fun _ h9 => h9) rfl dX9_gap_35 ?_
      refine lv_iload_n hx hb dX9_gap_38 rfl (lv_at hl 2 rfl) ?_
      refine r_aald hx hb hK hP 19 6 rfl (cwc19 C A u) rfl (i_ix ha0 (by omega) (by omega)) dX9_gap_39 ?_
      obtain ⟨k12, hk12, ek12⟩ : ∃ k : Nat, (k : Int) = 32 + A0 ∧ k = 32 + Int32.toNatClampNeg a0 := ⟨_, by have q9 := i_cl (x := a0) (X := A0) ha0 (by omega); omega, rfl⟩
      refine pv_v (v := .ref (A (52 + k12))) (by rw [ek12]; rfl) ?_
      refine lv_aload_n hx hb dX9_gap_40 rfl (lv_at hl 1 rfl) ?_
      refine lv_iload_n hx hb dX9_gap_41 rfl (lv_at hl 2 rfl) ?_
      refine cvS (n := 1) (As := [.int a0]) (rest := [.ref (A (52 + k12))]) ⟨hx, hb, hml, hown, hts⟩ uc_in (kX9_withoutSlowest_0 l D C A u hI a0 A0 ha0 (by omega) (by omega)) q_m659 q_n661 q_p16 q_i1 q_c662 hvX9_withoutSlowest ⟨(Nat.le_of_ble_eq_true rfl), (Nat.le_of_ble_eq_true rfl)⟩ ⟨(Nat.le_of_ble_eq_true rfl), (Nat.le_of_ble_eq_true rfl)⟩ hK hP 9 0 rfl (cwc0 C A u) rfl hl.1 rfl (Nat.le_of_ble_eq_true rfl) dX9_gap_42 (fun r13 p14 => ?_)
      refine csS (n := 2) (As := [.ref (A (52 + k12)), .int r13]) (rest := []) ⟨hx, hb, hml, hown, hts⟩ uc_in (kX5_noonOf_0 l D C A u hI k12 (by omega) r13 r13.toInt rfl) q_m609 q_s610 q_i4 q_c611 hvX5_noonOf ⟨(Nat.le_of_ble_eq_true rfl), (Nat.le_of_ble_eq_true rfl)⟩ ⟨(Nat.le_of_ble_eq_true rfl), (Nat.le_of_ble_eq_true rfl)⟩ hK hP rfl hl.1 rfl (Nat.le_of_ble_eq_true rfl) dX9_gap_45 (fun r15 p16 => ?_)
      refine lv_istore_n (lv' := [(3, .int r15), (2, .int r10), (0, .ref (A 0)), (1, .int a0)]) hx hb dX9_gap_48 rfl hl (by decide) rfl (fun ls hl => ?_)
      refine lv_iload_n hx hb dX9_gap_49 rfl (lv_at hl 1 rfl) ?_
      refine lv_sipush (v := 10000) hx hb dX9_gap_50 (by decide) ?_
      refine lv_icmp_ne (tgt := 71) hx hb dX9_gap_53 (by decide) (fun c17 => ?_) (fun c17 => ?_)
      · refine lv_iload_n hx hb dX9_gap_71 rfl (lv_at hl 1 rfl) ?_
        refine lv_iload_n hx hb dX9_gap_72 rfl (lv_at hl 0 rfl) ?_
        refine lv_isub hx hb dX9_gap_73 ?_
        refine p_any (fun z18 => ?_)
        exact hret _ _ z18 dX9_gap_74 rfl trivial
      · have c17 := cEQ (x := r10) (y := 10000) (X := r10.toInt) (Y := 10000) rfl (by decide) c17
        refine lv_iload_n hx hb dX9_gap_56 rfl (lv_at hl 0 rfl) ?_
        refine lv_sipush (v := 10000) hx hb dX9_gap_57 (by decide) ?_
        refine lv_icmp_ne (tgt := 67) hx hb dX9_gap_60 (by decide) (fun c19 => ?_) (fun c19 => ?_)
        · refine lv_sipush (v := 10000) hx hb dX9_gap_67 (by decide) ?_
          exact hret _ _ (10000 : Int32) dX9_gap_70 rfl trivial
        · have c19 := cEQ (x := r15) (y := 10000) (X := r15.toInt) (Y := 10000) rfl (by decide) c19
          refine lv_iconst (v := 0) hx hb dX9_gap_63 (by decide) ?_
          refine lv_goto (tgt := 70) hx hb dX9_gap_64 (by decide) ?_
          exact hret _ _ (0 : Int32) dX9_gap_70 rfl trivial
    · have c9 := cEQ (x := z8) (y := 0) (X := z8.toInt) (Y := 0) rfl (by decide) c9
      refine lv_iconst (v := 0) hx hb dX9_gap_23 (by decide) ?_
      exact hret _ _ (0 : Int32) dX9_gap_24 rfl trivial
  · subst e9
    refine lv_if_ne (tgt := 11) hx hb dX9_gap_5 (by decide) (fun c20 => absurd c20 (by decide)) (fun c20 => ?_)
    refine lv_bipush (v := (-2)) hx hb dX9_gap_8 (by decide) ?_
    exact hret _ _ ((-2) : Int32) dX9_gap_10 rfl trivial
set_option maxHeartbeats 4000000 in
set_option maxRecDepth 100000 in
theorem kX0_isWay_0 (l : Launch) (D : va_G) (C : Nat → ClassId) (A : Nat → Nat) (u : St) (hI : IC u) (a1 : Int32) (A1 : Int) (ha1 : a1.toInt = A1) : Met l yX0_isWay (uc yX0_isWay cX0_isWay 6 (some .boolean)) (rmL 2 0 0) (va_Pc [.ref (A 8), .int a1] (PreR D (tyl C) (cw C A u))) (vp_Si (fun r => 0 ≤ r.toInt ∧ r.toInt ≤ 1)) 0 0 (fun _ => False) := by
  refine mS (by decide) (Nat.le_of_ble_eq_true rfl) ?_
  intro p e s m below meth c ls ar Q hx hb hml hown hts hK hP hl hret
  have hown : s.vm.findClass RX0 = some m.cls := hown
  have hl : lv_has ls 6 [(0, .ref (A 8)), (1, .int a1)] := hl
  refine lv_iload_n hx hb dX0_isWay_0 rfl (lv_at hl 1 rfl) ?_
  refine lv_istore_n (lv' := [(2, .int a1), (0, .ref (A 8)), (1, .int a1)]) hx hb dX0_isWay_1 rfl hl (by decide) rfl (fun ls hl => ?_)
  refine lv_iconst (v := 0) hx hb dX0_isWay_2 (by decide) ?_
  refine lv_istore_n (lv' := [(3, .int 0), (2, .int a1), (0, .ref (A 8)), (1, .int a1)]) hx hb dX0_isWay_3 rfl hl (by decide) rfl (fun ls hl => ?_)
  have lp4_179 : ∀ (n4 : Nat) (ls : Array Slot) (y178d : Int32) (y179d : Int32), 0 ≤ y178d.toInt → y178d.toInt ≤ 60 → 60 - y178d.toInt < (n4 : Int) → lv_has ls 6 [(3, .int y178d), (2, .int y179d), (0, .ref (A 8))] → W p l e (rmL 2 0 0) s m ar below meth c s.heap [] 0 0 Q (F0 m 4 ls []) := by
    intro n4
    induction n4 with
    | zero => intro ls y178d y179d ly178d my178d hmun4 hl; exfalso; omega
    | succ n4 ih4_179 =>
      intro ls y178d y179d ly178d my178d hmun4 hl
      refine lv_iload_n hx hb dX0_isWay_4 rfl (lv_at hl 0 rfl) ?_
      refine lv_aload_n hx hb dX0_isWay_5 rfl (lv_at hl 2 rfl) ?_
      refine va_get (ci := 3) (v := .int (gi u 50)) (C := RX3) (T := TX3) (N := 3) hx hb hts (fun w h => uc_in w (inX3 w h)) hown hK hP 8 (cwc8 C A u) rfl 0 (by decide) (hts _ (uc_in _ q_f194)) (fun _ h9 => h9) rfl dX0_isWay_6 ?_
      have b181 := hI.b50
      refine lv_icmp_ge (tgt := 64) hx hb dX0_isWay_9 (by decide) (fun c182 => ?_) (fun c182 => ?_)
      · have c182 := cLE (x := (gi u 50)) (y := y178d) (X := ((gi u 50)).toInt) (Y := y178d.toInt) rfl rfl c182
        refine lv_iload_n hx hb dX0_isWay_64 rfl (lv_at hl 1 rfl) ?_
        refine lv_if_ne (tgt := 72) hx hb dX0_isWay_65 (by decide) (fun c183 => ?_) (fun c183 => ?_)
        · refine lv_iconst (v := 0) hx hb dX0_isWay_72 (by decide) ?_
          exact hret _ _ (0 : Int32) dX0_isWay_73 rfl ⟨by decide, by decide⟩
        · have c183 := cEQ (x := y179d) (y := 0) (X := y179d.toInt) (Y := 0) rfl (by decide) c183
          refine lv_iconst (v := 1) hx hb dX0_isWay_68 (by decide) ?_
          refine lv_goto (tgt := 73) hx hb dX0_isWay_69 (by decide) ?_
          exact hret _ _ (1 : Int32) dX0_isWay_73 rfl ⟨by decide, by decide⟩
      · have c182 := cNLE (x := (gi u 50)) (y := y178d) (X := ((gi u 50)).toInt) (Y := y178d.toInt) rfl rfl c182
        refine lv_aload_n hx hb dX0_isWay_12 rfl (lv_at hl 2 rfl) ?_
        refine va_get (ci := 3) (v := .ref (A 39)) (C := RX3) (T := TX3) (N := 3) hx hb hts (fun w h => uc_in w (inX3 w h)) hown hK hP 8 (cwc8 C A u) rfl 2 (by decide) (hts _ (uc_in _ q_f200)) (fun _ h9 => h9) rfl dX0_isWay_13 ?_
        refine lv_iload_n hx hb dX0_isWay_16 rfl (lv_at hl 0 rfl) ?_
        refine va_lald hx hb hK hP 39 2 (cwc39 C A u) rfl (i_ix rfl (by omega) (by omega)) dX0_isWay_17 ?_
        refine p_anyl (fun z184 => ?_)
        refine lv_lstore (lv' := [(4, .long z184), (3, .int y178d), (2, .int y179d), (0, .ref (A 8))]) hx hb dX0_isWay_18 hl (by decide) rfl (fun ls hl => ?_)
        refine lv_lload hx hb dX0_isWay_20 (lv_at hl 0 rfl) ?_
        refine lv_lconst (v := 0) hx hb dX0_isWay_22 (by decide) ?_
        refine W.lcmp hx hb dX0_isWay_23 ?_
        refine lv_if_lt (tgt := 46) hx hb dX0_isWay_24 (by decide) (fun c185 => ?_) (fun c185 => ?_)
        · have c185 := dLT (X := z184.toInt) (Y := 0) rfl (by decide) c185
          refine lv_iconst (v := 0) hx hb dX0_isWay_46 (by decide) ?_
          exact hret _ _ (0 : Int32) dX0_isWay_47 rfl ⟨by decide, by decide⟩
        · have c185 := dNLT (X := z184.toInt) (Y := 0) rfl (by decide) c185
          refine lv_lload hx hb dX0_isWay_27 (lv_at hl 0 rfl) ?_
          refine lv_ldc2 (v := 6) hx hb hown (hts _ (uc_in _ q_k921)) dX0_isWay_29 ?_
          refine W.lcmp hx hb dX0_isWay_32 ?_
          refine lv_if_ge (tgt := 46) hx hb dX0_isWay_33 (by decide) (fun c186 => ?_) (fun c186 => ?_)
          · have c186 := dGE (X := z184.toInt) (Y := 6) rfl (by decide) c186
            refine lv_iconst (v := 0) hx hb dX0_isWay_46 (by decide) ?_
            exact hret _ _ (0 : Int32) dX0_isWay_47 rfl ⟨by decide, by decide⟩
          · have c186 := dNGE (X := z184.toInt) (Y := 6) rfl (by decide) c186
            refine lv_iload_n hx hb dX0_isWay_36 rfl (lv_at hl 2 rfl) ?_
            refine lv_lload hx hb dX0_isWay_37 (lv_at hl 0 rfl) ?_
            refine lv_l2i hx hb dX0_isWay_39 rfl ?_
            refine p_nm (tt_l2i rfl (by omega) (by omega)) (fun z187 hz187 => ?_)
            refine csS (n := 2) (As := [.int y179d, .int z187]) (rest := []) ⟨hx, hb, hml, hown, hts⟩ uc_in (kX5_has_0 l D C A u hI y179d y179d.toInt rfl z187 z184.toInt hz187) q_m896 q_s641 q_i4 q_c642 hvX5_has ⟨(Nat.le_of_ble_eq_true rfl), (Nat.le_of_ble_eq_true rfl)⟩ ⟨(Nat.le_of_ble_eq_true rfl), (Nat.le_of_ble_eq_true rfl)⟩ hK hP rfl hl.1 rfl (Nat.le_of_ble_eq_true rfl) dX0_isWay_40 (fun r188 p189 => ?_)
            have p189 : 0 ≤ r188.toInt ∧ r188.toInt ≤ 1 := p189
            refine lv_if_ne (tgt := 48) hx hb dX0_isWay_43 (by decide) (fun c190 => ?_) (fun c190 => ?_)
            · have c190 := cNE (x := r188) (y := 0) (X := r188.toInt) (Y := 0) rfl (by decide) c190
              refine lv_iload_n hx hb dX0_isWay_48 rfl (lv_at hl 2 rfl) ?_
              refine lv_iconst (v := 1) hx hb dX0_isWay_49 (by decide) ?_
              refine lv_lload hx hb dX0_isWay_50 (lv_at hl 0 rfl) ?_
              refine lv_l2i hx hb dX0_isWay_52 rfl ?_
              refine p_nm (tt_l2i rfl (by omega) (by omega)) (fun z191 hz191 => ?_)
              refine lv_ishl hx hb dX0_isWay_53 ?_
              have gz192 := tt_shl1 (y := z191) (Y := z184.toInt) hz191 (by omega) (by omega)
              refine p_bd (P := fun q => 1 ≤ q ∧ q ≤ 32) ⟨by omega, by omega⟩ (fun z193 bz193 => ?_)
              have bz193 : 1 ≤ z193.toInt ∧ z193.toInt ≤ 32 := bz193
              refine lv_iconst (v := (-1)) hx hb dX0_isWay_54 (by decide) ?_
              refine lv_ixor hx hb dX0_isWay_55 ?_
              refine p_any (fun z194 => ?_)
              refine lv_iand hx hb dX0_isWay_56 ?_
              refine p_any (fun z195 => ?_)
              refine lv_istore_n (lv' := [(2, .int z195), (4, .long z184), (3, .int y178d), (0, .ref (A 8))]) hx hb dX0_isWay_57 rfl hl (by decide) rfl (fun ls hl => ?_)
              obtain ⟨z196, ez196⟩ : ∃ z, z = y178d + Int32.ofInt 1 := ⟨_, rfl⟩
              have hz196 : z196.toInt = y178d.toInt + 1 := by rw [ez196]; exact tt_add rfl (by decide) (by omega) (by omega)
              refine lv_iinc (v := z196) (lv' := [(3, .int z196), (2, .int z195), (4, .long z184), (0, .ref (A 8))]) hx hb dX0_isWay_58 hl (k := 2) rfl ez196.symm (by decide) rfl (fun ls hl => ?_)
              refine lv_goto (tgt := 4) hx hb dX0_isWay_61 (by decide) ?_
              exact ih4_179 ls z196 z195 (by have q9 := (show z196.toInt = (y178d.toInt + 1) from hz196); omega) (by have q9 := (show z196.toInt = (y178d.toInt + 1) from hz196); omega) (by have q9 := (show z196.toInt = (y178d.toInt + 1) from hz196); omega) (lv_sub hl [0, 1, 3] rfl)
            · have c190 := cEQ (x := r188) (y := 0) (X := r188.toInt) (Y := 0) rfl (by decide) c190
              refine lv_iconst (v := 0) hx hb dX0_isWay_46 (by decide) ?_
              exact hret _ _ (0 : Int32) dX0_isWay_47 rfl ⟨by decide, by decide⟩
  exact lp4_179 61 ls 0 a1 (by decide) (by decide) (by have q9 : (0 : Int32).toInt = 0 := (by decide); omega) (lv_sub hl [0, 1, 2] rfl)
set_option maxHeartbeats 4000000 in
set_option maxRecDepth 100000 in
theorem kX0_begin_0 (l : Launch) (D : va_G) (C : Nat → ClassId) (A : Nat → Nat) (u : St) (hI : IC u) (q1 : Nat) (hq1 : q1 < 109) (sz : Nat) : MetV l yX0_begin cX0_begin 3 2 [.ref (A 13), .ref (A 2), .ref (A (52 + q1))] D (tyl C) (cw C A) X0 u sz (fun u' => IC u' ∧ Un [] [(79, 79), (80, 80)] [] u u' ∧ True) := by
  refine mV (by decide) (Nat.le_of_ble_eq_true rfl) ?_
  intro p e s m below meth c ls ar Q hx hb hml hown hts hK hH hX hl hret
  have hown : s.vm.findClass RX0 = some m.cls := hown
  have hl : lv_has ls 3 [(0, .ref (A 13)), (1, .ref (A 2)), (2, .ref (A (52 + q1)))] := hl
  refine lv_aload_n hx hb dX0_begin_0 rfl (lv_at hl 1 rfl) ?_
  refine va_get (ci := 7) (v := .ref (A 52)) (C := RX7) (T := TX7) (N := 16) hx hb hts (fun w h => uc_in w (inX7 w h)) hown hK hH.1 2 (cwc2 C A u) rfl 8 (by decide) (hts _ (uc_in _ q_f96)) (fun _ h9 => h9) rfl dX0_begin_1 ?_
  refine lv_iconst (v := 0) hx hb dX0_begin_4 (by decide) ?_
  refine lv_aload_n hx hb dX0_begin_5 rfl (lv_at hl 0 rfl) ?_
  refine va_get (ci := 0) (v := .ref (A 79)) (C := RX0) (T := TX0) (N := 6) hx hb hts (fun w h => uc_in w (inX0 w h)) hown hK hH.1 13 (cwc13 C A u) rfl 4 (by decide) (hts _ (uc_in _ q_f279)) (fun _ h9 => h9) rfl dX0_begin_6 ?_
  refine lv_iconst (v := 0) hx hb dX0_begin_9 (by decide) ?_
  refine lv_bipush (v := 6) hx hb dX0_begin_10 (by decide) ?_
  refine r_copyi (j0 := 52) (j1 := 79) (S' := 0) (P' := 0) (N' := 6) hx hb (by rw [hml]; exact hl.1.symm) hown (hts _ (uc_in _ q_m883)) (hts _ (uc_in _ q_t562)) (hts _ (uc_in _ q_s561)) (hts _ (uc_in _ q_i17)) hK hH 52 79 1 (cwc52 C A u) (cwc79 C A u) rfl (by decide) (by decide) (by decide) (by decide) (by decide) (by decide) (by decide) (by decide) (cwa79 C A u) (Nat.le_of_ble_eq_true rfl) (Nat.le_of_ble_eq_true rfl) dX0_begin_12 (fun u1 eu1 H locs hH => ?_)
  have hI := hI.pa0 eu1 (by decide)
  refine lv_aload_n hx hb dX0_begin_15 rfl (lv_at hl 2 rfl) ?_
  refine lv_iconst (v := 0) hx hb dX0_begin_16 (by decide) ?_
  refine lv_aload_n hx hb dX0_begin_17 rfl (lv_at hl 0 rfl) ?_
  refine va_get (ci := 0) (v := .ref (A 80)) (C := RX0) (T := TX0) (N := 6) hx hb hts (fun w h => uc_in w (inX0 w h)) hown hK hH.1 13 (cwc13 C A u1) rfl 5 (by decide) (hts _ (uc_in _ q_f280)) (fun _ h9 => h9) rfl dX0_begin_18 ?_
  refine lv_iconst (v := 0) hx hb dX0_begin_21 (by decide) ?_
  refine lv_bipush (v := 6) hx hb dX0_begin_22 (by decide) ?_
  refine r_copyi (j0 := (52 + q1)) (j1 := 80) (S' := 0) (P' := 0) (N' := 6) hx hb (by rw [hml]; exact hl.1.symm) hown (hts _ (uc_in _ q_m883)) (hts _ (uc_in _ q_t562)) (hts _ (uc_in _ q_s561)) (hts _ (uc_in _ q_i17)) hK hH (52 + q1) 80 1 (cwp C A u1 q1 hq1) (cwc80 C A u1) rfl (by decide) (by decide) (by decide) (by decide) (by decide) (by decide) (by decide) (by decide) (cwa80 C A u1) (Nat.le_of_ble_eq_true rfl) (Nat.le_of_ble_eq_true rfl) dX0_begin_24 (fun u2 eu2 H locs hH => ?_)
  have hI := hI.pa0 eu2 (by decide)
  exact hret _ _ _ _ _ dX0_begin_27 ⟨hI, (Un.sa (Un.sa Un.rf rfl eu1) rfl eu2), trivial⟩ hH
set_option maxHeartbeats 4000000 in
set_option maxRecDepth 100000 in
theorem kX0_hearAt_0 (l : Launch) (D : va_G) (C : Nat → ClassId) (A : Nat → Nat) (u : St) (hI : IC u) (a0 : Int32) (A0 : Int) (ha0 : a0.toInt = A0) (a1 : Int32) (A1 : Int) (ha1 : a1.toInt = A1) (a2 : Int32) (A2 : Int) (ha2 : a2.toInt = A2) (hl0 : 0 ≤ A0) (hm0 : A0 ≤ 5) : Met l yX0_hearAt (uc yX0_hearAt cX0_hearAt 4 (some .int)) (rmL 2 0 0) (va_Pc [.ref (A 13), .int a0, .int a1, .int a2] (PreR D (tyl C) (cw C A u))) (vp_Si (fun r => True)) 0 0 (fun _ => False) := by
  refine mS (by decide) (Nat.le_of_ble_eq_true rfl) ?_
  intro p e s m below meth c ls ar Q hx hb hml hown hts hK hP hl hret
  have hown : s.vm.findClass RX0 = some m.cls := hown
  have hl : lv_has ls 4 [(0, .ref (A 13)), (1, .int a0), (2, .int a1), (3, .int a2)] := hl
  refine lv_iload_n hx hb dX0_hearAt_0 rfl (lv_at hl 3 rfl) ?_
  refine lv_aload_n hx hb dX0_hearAt_1 rfl (lv_at hl 0 rfl) ?_
  refine va_get (ci := 0) (v := .ref (A 79)) (C := RX0) (T := TX0) (N := 6) hx hb hts (fun w h => uc_in w (inX0 w h)) hown hK hP 13 (cwc13 C A u) rfl 4 (by decide) (hts _ (uc_in _ q_f279)) (fun _ h9 => h9) rfl dX0_hearAt_2 ?_
  refine lv_iload_n hx hb dX0_hearAt_5 rfl (lv_at hl 1 rfl) ?_
  refine va_iald hx hb hK hP 79 1 (cwc79 C A u) rfl (i_ix ha0 (by omega) (by omega)) dX0_hearAt_6 ?_
  refine p_any (fun z1 => ?_)
  refine lv_iload_n hx hb dX0_hearAt_7 rfl (lv_at hl 2 rfl) ?_
  refine lv_isub hx hb dX0_hearAt_8 ?_
  refine p_any (fun z2 => ?_)
  refine va_mabs hx hb (by rw [hml]; exact hl.1.symm) hown (hts _ (uc_in _ q_m901)) (hts _ (uc_in _ q_s802)) (hts _ (uc_in _ q_i12)) (hts _ (uc_in _ q_c803)) (Nat.le_of_ble_eq_true rfl) (Nat.le_of_ble_eq_true rfl) (Nat.le_of_ble_eq_true rfl) (Nat.le_of_ble_eq_true rfl) dX0_hearAt_9 ?_
  refine p_any (fun z3 => ?_)
  refine lv_iadd hx hb dX0_hearAt_12 ?_
  refine p_any (fun z4 => ?_)
  refine lv_aload_n hx hb dX0_hearAt_13 rfl (lv_at hl 0 rfl) ?_
  refine va_get (ci := 0) (v := .ref (A 80)) (C := RX0) (T := TX0) (N := 6) hx hb hts (fun w h => uc_in w (inX0 w h)) hown hK hP 13 (cwc13 C A u) rfl 5 (by decide) (hts _ (uc_in _ q_f280)) (fun _ h9 => h9) rfl dX0_hearAt_14 ?_
  refine lv_iload_n hx hb dX0_hearAt_17 rfl (lv_at hl 1 rfl) ?_
  refine va_iald hx hb hK hP 80 1 (cwc80 C A u) rfl (i_ix ha0 (by omega) (by omega)) dX0_hearAt_18 ?_
  refine p_any (fun z5 => ?_)
  refine va_mmax hx hb (by rw [hml]; exact hl.1.symm) hown (hts _ (uc_in _ q_m902)) (hts _ (uc_in _ q_s571)) (hts _ (uc_in _ q_i12)) (hts _ (uc_in _ q_c572)) (Nat.le_of_ble_eq_true rfl) (Nat.le_of_ble_eq_true rfl) (Nat.le_of_ble_eq_true rfl) (Nat.le_of_ble_eq_true rfl) dX0_hearAt_19 ?_
  refine p_any (fun z6 => ?_)
  exact hret _ _ z6 dX0_hearAt_22 rfl trivial
set_option maxHeartbeats 4000000 in
set_option maxRecDepth 100000 in
theorem kX0_walk_0 (l : Launch) (D : va_G) (C : Nat → ClassId) (A : Nat → Nat) (u : St) (hI : IC u) (a0 : Int32) (A0 : Int) (ha0 : a0.toInt = A0) : Met l yX0_walk (uc yX0_walk cX0_walk 8 (some .int)) (rmL 3 0 0) (va_Pc [.ref (A 13), .int a0, .ref (A 8)] (PreR D (tyl C) (cw C A u))) (vp_Si (fun r => True)) 0 0 (fun _ => False) := by
  refine mS (by decide) (Nat.le_of_ble_eq_true rfl) ?_
  intro p e s m below meth c ls ar Q hx hb hml hown hts hK hP hl hret
  have hown : s.vm.findClass RX0 = some m.cls := hown
  have hl : lv_has ls 8 [(0, .ref (A 13)), (1, .int a0), (2, .ref (A 8))] := hl
  refine lv_iconst (v := 0) hx hb dX0_walk_0 (by decide) ?_
  refine lv_istore_n (lv' := [(3, .int 0), (0, .ref (A 13)), (1, .int a0), (2, .ref (A 8))]) hx hb dX0_walk_1 rfl hl (by decide) rfl (fun ls hl => ?_)
  refine lv_iload_n hx hb dX0_walk_2 rfl (lv_at hl 2 rfl) ?_
  refine lv_istore (lv' := [(4, .int a0), (3, .int 0), (0, .ref (A 13)), (1, .int a0), (2, .ref (A 8))]) hx hb dX0_walk_3 hl (by decide) rfl (fun ls hl => ?_)
  refine lv_iconst (v := 0) hx hb dX0_walk_5 (by decide) ?_
  refine lv_istore (lv' := [(5, .int 0), (4, .int a0), (3, .int 0), (0, .ref (A 13)), (1, .int a0), (2, .ref (A 8))]) hx hb dX0_walk_6 hl (by decide) rfl (fun ls hl => ?_)
  have lp8_179 : ∀ (n8 : Nat) (ls : Array Slot) (y177d : Int32) (y178d : Int32) (y179d : Int32), 0 ≤ y177d.toInt → y177d.toInt ≤ 60 → 60 - y177d.toInt < (n8 : Int) → lv_has ls 8 [(5, .int y177d), (4, .int y178d), (3, .int y179d), (0, .ref (A 13)), (2, .ref (A 8))] → W p l e (rmL 3 0 0) s m ar below meth c s.heap [] 0 0 Q (F0 m 8 ls []) := by
    intro n8
    induction n8 with
    | zero => intro ls y177d y178d y179d ly177d my177d hmun8 hl; exfalso; omega
    | succ n8 ih8_179 =>
      intro ls y177d y178d y179d ly177d my177d hmun8 hl
      refine lv_iload hx hb dX0_walk_8 (lv_at hl 0 rfl) ?_
      refine lv_aload_n hx hb dX0_walk_10 rfl (lv_at hl 4 rfl) ?_
      refine va_get (ci := 3) (v := .int (gi u 50)) (C := RX3) (T := TX3) (N := 3) hx hb hts (fun w h => uc_in w (inX3 w h)) hown hK hP 8 (cwc8 C A u) rfl 0 (by decide) (hts _ (uc_in _ q_f194)) (fun _ h9 => h9) rfl dX0_walk_11 ?_
      have b181 := hI.b50
      refine lv_icmp_ge (tgt := 69) hx hb dX0_walk_14 (by decide) (fun c182 => ?_) (fun c182 => ?_)
      · have c182 := cLE (x := (gi u 50)) (y := y177d) (X := ((gi u 50)).toInt) (Y := y177d.toInt) rfl rfl c182
        refine lv_iload_n hx hb dX0_walk_69 rfl (lv_at hl 2 rfl) ?_
        refine lv_sipush (v := 10000) hx hb dX0_walk_70 (by decide) ?_
        refine va_mmin hx hb (by rw [hml]; exact hl.1.symm) hown (hts _ (uc_in _ q_m926)) (hts _ (uc_in _ q_s456)) (hts _ (uc_in _ q_i12)) (hts _ (uc_in _ q_c457)) (Nat.le_of_ble_eq_true rfl) (Nat.le_of_ble_eq_true rfl) (Nat.le_of_ble_eq_true rfl) (Nat.le_of_ble_eq_true rfl) dX0_walk_73 ?_
        refine p_bd (P := fun q => True ∧ q ≤ 10000) (by rcases tt_min (x := y179d) (y := 10000) with q9 | q9 <;> rw [q9.1] <;> refine ⟨?_, ?_⟩ <;> first | trivial | (have q7 := (show y179d.toInt = y179d.toInt from rfl); have q8 := (show (10000 : Int32).toInt = 10000 from (by decide)); omega)) (fun z183 bz183 => ?_)
        have bz183 : True ∧ z183.toInt ≤ 10000 := bz183
        exact hret _ _ z183 dX0_walk_76 rfl trivial
      · have c182 := cNLE (x := (gi u 50)) (y := y177d) (X := ((gi u 50)).toInt) (Y := y177d.toInt) rfl rfl c182
        refine lv_aload_n hx hb dX0_walk_17 rfl (lv_at hl 4 rfl) ?_
        refine va_get (ci := 3) (v := .ref (A 39)) (C := RX3) (T := TX3) (N := 3) hx hb hts (fun w h => uc_in w (inX3 w h)) hown hK hP 8 (cwc8 C A u) rfl 2 (by decide) (hts _ (uc_in _ q_f200)) (fun _ h9 => h9) rfl dX0_walk_18 ?_
        refine lv_iload hx hb dX0_walk_21 (lv_at hl 0 rfl) ?_
        refine va_lald hx hb hK hP 39 2 (cwc39 C A u) rfl (i_ix rfl (by omega) (by omega)) dX0_walk_23 ?_
        refine p_anyl (fun z184 => ?_)
        refine lv_lstore (lv' := [(6, .long z184), (5, .int y177d), (4, .int y178d), (3, .int y179d), (0, .ref (A 13)), (2, .ref (A 8))]) hx hb dX0_walk_24 hl (by decide) rfl (fun ls hl => ?_)
        refine lv_lload hx hb dX0_walk_26 (lv_at hl 0 rfl) ?_
        refine lv_lconst (v := 0) hx hb dX0_walk_28 (by decide) ?_
        refine W.lcmp hx hb dX0_walk_29 ?_
        have j63_195 : ∀ (ls : Array Slot) (y192d : Int32) (y193d : Int32), lv_has ls 8 [(5, .int y177d), (4, .int y192d), (3, .int y193d), (0, .ref (A 13)), (2, .ref (A 8))] → W p l e (rmL 3 0 0) s m ar below meth c s.heap [] 0 0 Q (F0 m 63 ls []) := by
          intro ls y192d y193d hl
          obtain ⟨z197, ez197⟩ : ∃ z, z = y177d + Int32.ofInt 1 := ⟨_, rfl⟩
          have hz197 : z197.toInt = y177d.toInt + 1 := by rw [ez197]; exact tt_add rfl (by decide) (by omega) (by omega)
          refine lv_iinc (v := z197) (lv' := [(5, .int z197), (4, .int y192d), (3, .int y193d), (0, .ref (A 13)), (2, .ref (A 8))]) hx hb dX0_walk_63 hl (k := 0) rfl ez197.symm (by decide) rfl (fun ls hl => ?_)
          refine lv_goto (tgt := 8) hx hb dX0_walk_66 (by decide) ?_
          exact ih8_179 ls z197 y192d y193d (by have q9 := (show z197.toInt = (y177d.toInt + 1) from hz197); omega) (by have q9 := (show z197.toInt = (y177d.toInt + 1) from hz197); omega) (by have q9 := (show z197.toInt = (y177d.toInt + 1) from hz197); omega) hl
        refine lv_if_lt (tgt := 63) hx hb dX0_walk_30 (by decide) (fun c185 => ?_) (fun c185 => ?_)
        · have c185 := dLT (X := z184.toInt) (Y := 0) rfl (by decide) c185
          exact j63_195 ls y178d y179d (lv_sub hl [1, 2, 3, 4, 5] rfl)
        · have c185 := dNLT (X := z184.toInt) (Y := 0) rfl (by decide) c185
          refine lv_lload hx hb dX0_walk_33 (lv_at hl 0 rfl) ?_
          refine lv_ldc2 (v := 6) hx hb hown (hts _ (uc_in _ q_k921)) dX0_walk_35 ?_
          refine W.lcmp hx hb dX0_walk_38 ?_
          refine lv_if_ge (tgt := 63) hx hb dX0_walk_39 (by decide) (fun c198 => ?_) (fun c198 => ?_)
          · have c198 := dGE (X := z184.toInt) (Y := 6) rfl (by decide) c198
            exact j63_195 ls y178d y179d (lv_sub hl [1, 2, 3, 4, 5] rfl)
          · have c198 := dNGE (X := z184.toInt) (Y := 6) rfl (by decide) c198
            refine lv_aload_n hx hb dX0_walk_42 rfl (lv_at hl 4 rfl) ?_
            refine lv_lload hx hb dX0_walk_43 (lv_at hl 0 rfl) ?_
            refine lv_l2i hx hb dX0_walk_45 rfl ?_
            refine p_nm (tt_l2i rfl (by omega) (by omega)) (fun z199 hz199 => ?_)
            refine lv_iload hx hb dX0_walk_46 (lv_at hl 2 rfl) ?_
            refine lv_iload_n hx hb dX0_walk_48 rfl (lv_at hl 3 rfl) ?_
            refine cvS (n := 3) (As := [.int z199, .int y178d, .int y179d]) (rest := []) ⟨hx, hb, hml, hown, hts⟩ uc_in (kX0_hearAt_0 l D C A u hI z199 z184.toInt hz199 y178d y178d.toInt rfl y179d y179d.toInt rfl (by omega) (by omega)) q_m897 q_n899 q_p36 q_i7 q_c900 hvX0_hearAt ⟨(Nat.le_of_ble_eq_true rfl), (Nat.le_of_ble_eq_true rfl)⟩ ⟨(Nat.le_of_ble_eq_true rfl), (Nat.le_of_ble_eq_true rfl)⟩ hK hP 0 13 rfl (cwc13 C A u) rfl hl.1 rfl (Nat.le_of_ble_eq_true rfl) dX0_walk_49 (fun r200 p201 => ?_)
            refine lv_istore_n (lv' := [(3, .int r200), (6, .long z184), (5, .int y177d), (4, .int y178d), (0, .ref (A 13)), (2, .ref (A 8))]) hx hb dX0_walk_52 rfl hl (by decide) rfl (fun ls hl => ?_)
            refine lv_aload_n hx hb dX0_walk_53 rfl (lv_at hl 4 rfl) ?_
            refine va_get (ci := 0) (v := .ref (A 79)) (C := RX0) (T := TX0) (N := 6) hx hb hts (fun w h => uc_in w (inX0 w h)) hown hK hP 13 (cwc13 C A u) rfl 4 (by decide) (hts _ (uc_in _ q_f279)) (fun _ h9 => h9) rfl dX0_walk_54 ?_
            refine lv_lload hx hb dX0_walk_57 (lv_at hl 1 rfl) ?_
            refine lv_l2i hx hb dX0_walk_59 rfl ?_
            refine p_nm (tt_l2i rfl (by omega) (by omega)) (fun z202 hz202 => ?_)
            refine va_iald hx hb hK hP 79 1 (cwc79 C A u) rfl (i_ix hz202 (by omega) (by omega)) dX0_walk_60 ?_
            refine p_any (fun z203 => ?_)
            refine lv_istore (lv' := [(4, .int z203), (3, .int r200), (6, .long z184), (5, .int y177d), (0, .ref (A 13)), (2, .ref (A 8))]) hx hb dX0_walk_61 hl (by decide) rfl (fun ls hl => ?_)
            exact j63_195 ls z203 r200 (lv_sub hl [3, 0, 1, 4, 5] rfl)
  exact lp8_179 61 ls 0 a0 0 (by decide) (by decide) (by have q9 : (0 : Int32).toInt = 0 := (by decide); omega) (lv_sub hl [0, 1, 2, 3, 5] rfl)
set_option maxHeartbeats 4000000 in
set_option maxRecDepth 100000 in
theorem kX0_isWay_1 (l : Launch) (D : va_G) (C : Nat → ClassId) (A : Nat → Nat) (u : St) (hI : IC u) (a1 : Int32) (A1 : Int) (ha1 : a1.toInt = A1) : Met l yX0_isWay (uc yX0_isWay cX0_isWay 6 (some .boolean)) (rmL 2 0 0) (va_Pc [.ref (A 9), .int a1] (PreR D (tyl C) (cw C A u))) (vp_Si (fun r => 0 ≤ r.toInt ∧ r.toInt ≤ 1)) 0 0 (fun _ => False) := by
  refine mS (by decide) (Nat.le_of_ble_eq_true rfl) ?_
  intro p e s m below meth c ls ar Q hx hb hml hown hts hK hP hl hret
  have hown : s.vm.findClass RX0 = some m.cls := hown
  have hl : lv_has ls 6 [(0, .ref (A 9)), (1, .int a1)] := hl
  refine lv_iload_n hx hb dX0_isWay_0 rfl (lv_at hl 1 rfl) ?_
  refine lv_istore_n (lv' := [(2, .int a1), (0, .ref (A 9)), (1, .int a1)]) hx hb dX0_isWay_1 rfl hl (by decide) rfl (fun ls hl => ?_)
  refine lv_iconst (v := 0) hx hb dX0_isWay_2 (by decide) ?_
  refine lv_istore_n (lv' := [(3, .int 0), (2, .int a1), (0, .ref (A 9)), (1, .int a1)]) hx hb dX0_isWay_3 rfl hl (by decide) rfl (fun ls hl => ?_)
  have lp4_179 : ∀ (n4 : Nat) (ls : Array Slot) (y178d : Int32) (y179d : Int32), 0 ≤ y178d.toInt → y178d.toInt ≤ 60 → 60 - y178d.toInt < (n4 : Int) → lv_has ls 6 [(3, .int y178d), (2, .int y179d), (0, .ref (A 9))] → W p l e (rmL 2 0 0) s m ar below meth c s.heap [] 0 0 Q (F0 m 4 ls []) := by
    intro n4
    induction n4 with
    | zero => intro ls y178d y179d ly178d my178d hmun4 hl; exfalso; omega
    | succ n4 ih4_179 =>
      intro ls y178d y179d ly178d my178d hmun4 hl
      refine lv_iload_n hx hb dX0_isWay_4 rfl (lv_at hl 0 rfl) ?_
      refine lv_aload_n hx hb dX0_isWay_5 rfl (lv_at hl 2 rfl) ?_
      refine va_get (ci := 3) (v := .int (gi u 52)) (C := RX3) (T := TX3) (N := 3) hx hb hts (fun w h => uc_in w (inX3 w h)) hown hK hP 9 (cwc9 C A u) rfl 0 (by decide) (hts _ (uc_in _ q_f194)) (fun _ h9 => h9) rfl dX0_isWay_6 ?_
      have b181 := hI.b52
      refine lv_icmp_ge (tgt := 64) hx hb dX0_isWay_9 (by decide) (fun c182 => ?_) (fun c182 => ?_)
      · have c182 := cLE (x := (gi u 52)) (y := y178d) (X := ((gi u 52)).toInt) (Y := y178d.toInt) rfl rfl c182
        refine lv_iload_n hx hb dX0_isWay_64 rfl (lv_at hl 1 rfl) ?_
        refine lv_if_ne (tgt := 72) hx hb dX0_isWay_65 (by decide) (fun c183 => ?_) (fun c183 => ?_)
        · refine lv_iconst (v := 0) hx hb dX0_isWay_72 (by decide) ?_
          exact hret _ _ (0 : Int32) dX0_isWay_73 rfl ⟨by decide, by decide⟩
        · have c183 := cEQ (x := y179d) (y := 0) (X := y179d.toInt) (Y := 0) rfl (by decide) c183
          refine lv_iconst (v := 1) hx hb dX0_isWay_68 (by decide) ?_
          refine lv_goto (tgt := 73) hx hb dX0_isWay_69 (by decide) ?_
          exact hret _ _ (1 : Int32) dX0_isWay_73 rfl ⟨by decide, by decide⟩
      · have c182 := cNLE (x := (gi u 52)) (y := y178d) (X := ((gi u 52)).toInt) (Y := y178d.toInt) rfl rfl c182
        refine lv_aload_n hx hb dX0_isWay_12 rfl (lv_at hl 2 rfl) ?_
        refine va_get (ci := 3) (v := .ref (A 40)) (C := RX3) (T := TX3) (N := 3) hx hb hts (fun w h => uc_in w (inX3 w h)) hown hK hP 9 (cwc9 C A u) rfl 2 (by decide) (hts _ (uc_in _ q_f200)) (fun _ h9 => h9) rfl dX0_isWay_13 ?_
        refine lv_iload_n hx hb dX0_isWay_16 rfl (lv_at hl 0 rfl) ?_
        refine va_lald hx hb hK hP 40 2 (cwc40 C A u) rfl (i_ix rfl (by omega) (by omega)) dX0_isWay_17 ?_
        refine p_anyl (fun z184 => ?_)
        refine lv_lstore (lv' := [(4, .long z184), (3, .int y178d), (2, .int y179d), (0, .ref (A 9))]) hx hb dX0_isWay_18 hl (by decide) rfl (fun ls hl => ?_)
        refine lv_lload hx hb dX0_isWay_20 (lv_at hl 0 rfl) ?_
        refine lv_lconst (v := 0) hx hb dX0_isWay_22 (by decide) ?_
        refine W.lcmp hx hb dX0_isWay_23 ?_
        refine lv_if_lt (tgt := 46) hx hb dX0_isWay_24 (by decide) (fun c185 => ?_) (fun c185 => ?_)
        · have c185 := dLT (X := z184.toInt) (Y := 0) rfl (by decide) c185
          refine lv_iconst (v := 0) hx hb dX0_isWay_46 (by decide) ?_
          exact hret _ _ (0 : Int32) dX0_isWay_47 rfl ⟨by decide, by decide⟩
        · have c185 := dNLT (X := z184.toInt) (Y := 0) rfl (by decide) c185
          refine lv_lload hx hb dX0_isWay_27 (lv_at hl 0 rfl) ?_
          refine lv_ldc2 (v := 6) hx hb hown (hts _ (uc_in _ q_k921)) dX0_isWay_29 ?_
          refine W.lcmp hx hb dX0_isWay_32 ?_
          refine lv_if_ge (tgt := 46) hx hb dX0_isWay_33 (by decide) (fun c186 => ?_) (fun c186 => ?_)
          · have c186 := dGE (X := z184.toInt) (Y := 6) rfl (by decide) c186
            refine lv_iconst (v := 0) hx hb dX0_isWay_46 (by decide) ?_
            exact hret _ _ (0 : Int32) dX0_isWay_47 rfl ⟨by decide, by decide⟩
          · have c186 := dNGE (X := z184.toInt) (Y := 6) rfl (by decide) c186
            refine lv_iload_n hx hb dX0_isWay_36 rfl (lv_at hl 2 rfl) ?_
            refine lv_lload hx hb dX0_isWay_37 (lv_at hl 0 rfl) ?_
            refine lv_l2i hx hb dX0_isWay_39 rfl ?_
            refine p_nm (tt_l2i rfl (by omega) (by omega)) (fun z187 hz187 => ?_)
            refine csS (n := 2) (As := [.int y179d, .int z187]) (rest := []) ⟨hx, hb, hml, hown, hts⟩ uc_in (kX5_has_0 l D C A u hI y179d y179d.toInt rfl z187 z184.toInt hz187) q_m896 q_s641 q_i4 q_c642 hvX5_has ⟨(Nat.le_of_ble_eq_true rfl), (Nat.le_of_ble_eq_true rfl)⟩ ⟨(Nat.le_of_ble_eq_true rfl), (Nat.le_of_ble_eq_true rfl)⟩ hK hP rfl hl.1 rfl (Nat.le_of_ble_eq_true rfl) dX0_isWay_40 (fun r188 p189 => ?_)
            have p189 : 0 ≤ r188.toInt ∧ r188.toInt ≤ 1 := p189
            refine lv_if_ne (tgt := 48) hx hb dX0_isWay_43 (by decide) (fun c190 => ?_) (fun c190 => ?_)
            · have c190 := cNE (x := r188) (y := 0) (X := r188.toInt) (Y := 0) rfl (by decide) c190
              refine lv_iload_n hx hb dX0_isWay_48 rfl (lv_at hl 2 rfl) ?_
              refine lv_iconst (v := 1) hx hb dX0_isWay_49 (by decide) ?_
              refine lv_lload hx hb dX0_isWay_50 (lv_at hl 0 rfl) ?_
              refine lv_l2i hx hb dX0_isWay_52 rfl ?_
              refine p_nm (tt_l2i rfl (by omega) (by omega)) (fun z191 hz191 => ?_)
              refine lv_ishl hx hb dX0_isWay_53 ?_
              have gz192 := tt_shl1 (y := z191) (Y := z184.toInt) hz191 (by omega) (by omega)
              refine p_bd (P := fun q => 1 ≤ q ∧ q ≤ 32) ⟨by omega, by omega⟩ (fun z193 bz193 => ?_)
              have bz193 : 1 ≤ z193.toInt ∧ z193.toInt ≤ 32 := bz193
              refine lv_iconst (v := (-1)) hx hb dX0_isWay_54 (by decide) ?_
              refine lv_ixor hx hb dX0_isWay_55 ?_
              refine p_any (fun z194 => ?_)
              refine lv_iand hx hb dX0_isWay_56 ?_
              refine p_any (fun z195 => ?_)
              refine lv_istore_n (lv' := [(2, .int z195), (4, .long z184), (3, .int y178d), (0, .ref (A 9))]) hx hb dX0_isWay_57 rfl hl (by decide) rfl (fun ls hl => ?_)
              obtain ⟨z196, ez196⟩ : ∃ z, z = y178d + Int32.ofInt 1 := ⟨_, rfl⟩
              have hz196 : z196.toInt = y178d.toInt + 1 := by rw [ez196]; exact tt_add rfl (by decide) (by omega) (by omega)
              refine lv_iinc (v := z196) (lv' := [(3, .int z196), (2, .int z195), (4, .long z184), (0, .ref (A 9))]) hx hb dX0_isWay_58 hl (k := 2) rfl ez196.symm (by decide) rfl (fun ls hl => ?_)
              refine lv_goto (tgt := 4) hx hb dX0_isWay_61 (by decide) ?_
              exact ih4_179 ls z196 z195 (by have q9 := (show z196.toInt = (y178d.toInt + 1) from hz196); omega) (by have q9 := (show z196.toInt = (y178d.toInt + 1) from hz196); omega) (by have q9 := (show z196.toInt = (y178d.toInt + 1) from hz196); omega) (lv_sub hl [0, 1, 3] rfl)
            · have c190 := cEQ (x := r188) (y := 0) (X := r188.toInt) (Y := 0) rfl (by decide) c190
              refine lv_iconst (v := 0) hx hb dX0_isWay_46 (by decide) ?_
              exact hret _ _ (0 : Int32) dX0_isWay_47 rfl ⟨by decide, by decide⟩
  exact lp4_179 61 ls 0 a1 (by decide) (by decide) (by have q9 : (0 : Int32).toInt = 0 := (by decide); omega) (lv_sub hl [0, 1, 2] rfl)
set_option maxHeartbeats 4000000 in
set_option maxRecDepth 100000 in
theorem kX0_walk_1 (l : Launch) (D : va_G) (C : Nat → ClassId) (A : Nat → Nat) (u : St) (hI : IC u) (a0 : Int32) (A0 : Int) (ha0 : a0.toInt = A0) : Met l yX0_walk (uc yX0_walk cX0_walk 8 (some .int)) (rmL 3 0 0) (va_Pc [.ref (A 13), .int a0, .ref (A 9)] (PreR D (tyl C) (cw C A u))) (vp_Si (fun r => True)) 0 0 (fun _ => False) := by
  refine mS (by decide) (Nat.le_of_ble_eq_true rfl) ?_
  intro p e s m below meth c ls ar Q hx hb hml hown hts hK hP hl hret
  have hown : s.vm.findClass RX0 = some m.cls := hown
  have hl : lv_has ls 8 [(0, .ref (A 13)), (1, .int a0), (2, .ref (A 9))] := hl
  refine lv_iconst (v := 0) hx hb dX0_walk_0 (by decide) ?_
  refine lv_istore_n (lv' := [(3, .int 0), (0, .ref (A 13)), (1, .int a0), (2, .ref (A 9))]) hx hb dX0_walk_1 rfl hl (by decide) rfl (fun ls hl => ?_)
  refine lv_iload_n hx hb dX0_walk_2 rfl (lv_at hl 2 rfl) ?_
  refine lv_istore (lv' := [(4, .int a0), (3, .int 0), (0, .ref (A 13)), (1, .int a0), (2, .ref (A 9))]) hx hb dX0_walk_3 hl (by decide) rfl (fun ls hl => ?_)
  refine lv_iconst (v := 0) hx hb dX0_walk_5 (by decide) ?_
  refine lv_istore (lv' := [(5, .int 0), (4, .int a0), (3, .int 0), (0, .ref (A 13)), (1, .int a0), (2, .ref (A 9))]) hx hb dX0_walk_6 hl (by decide) rfl (fun ls hl => ?_)
  have lp8_179 : ∀ (n8 : Nat) (ls : Array Slot) (y177d : Int32) (y178d : Int32) (y179d : Int32), 0 ≤ y177d.toInt → y177d.toInt ≤ 60 → 60 - y177d.toInt < (n8 : Int) → lv_has ls 8 [(5, .int y177d), (4, .int y178d), (3, .int y179d), (0, .ref (A 13)), (2, .ref (A 9))] → W p l e (rmL 3 0 0) s m ar below meth c s.heap [] 0 0 Q (F0 m 8 ls []) := by
    intro n8
    induction n8 with
    | zero => intro ls y177d y178d y179d ly177d my177d hmun8 hl; exfalso; omega
    | succ n8 ih8_179 =>
      intro ls y177d y178d y179d ly177d my177d hmun8 hl
      refine lv_iload hx hb dX0_walk_8 (lv_at hl 0 rfl) ?_
      refine lv_aload_n hx hb dX0_walk_10 rfl (lv_at hl 4 rfl) ?_
      refine va_get (ci := 3) (v := .int (gi u 52)) (C := RX3) (T := TX3) (N := 3) hx hb hts (fun w h => uc_in w (inX3 w h)) hown hK hP 9 (cwc9 C A u) rfl 0 (by decide) (hts _ (uc_in _ q_f194)) (fun _ h9 => h9) rfl dX0_walk_11 ?_
      have b181 := hI.b52
      refine lv_icmp_ge (tgt := 69) hx hb dX0_walk_14 (by decide) (fun c182 => ?_) (fun c182 => ?_)
      · have c182 := cLE (x := (gi u 52)) (y := y177d) (X := ((gi u 52)).toInt) (Y := y177d.toInt) rfl rfl c182
        refine lv_iload_n hx hb dX0_walk_69 rfl (lv_at hl 2 rfl) ?_
        refine lv_sipush (v := 10000) hx hb dX0_walk_70 (by decide) ?_
        refine va_mmin hx hb (by rw [hml]; exact hl.1.symm) hown (hts _ (uc_in _ q_m926)) (hts _ (uc_in _ q_s456)) (hts _ (uc_in _ q_i12)) (hts _ (uc_in _ q_c457)) (Nat.le_of_ble_eq_true rfl) (Nat.le_of_ble_eq_true rfl) (Nat.le_of_ble_eq_true rfl) (Nat.le_of_ble_eq_true rfl) dX0_walk_73 ?_
        refine p_bd (P := fun q => True ∧ q ≤ 10000) (by rcases tt_min (x := y179d) (y := 10000) with q9 | q9 <;> rw [q9.1] <;> refine ⟨?_, ?_⟩ <;> first | trivial | (have q7 := (show y179d.toInt = y179d.toInt from rfl); have q8 := (show (10000 : Int32).toInt = 10000 from (by decide)); omega)) (fun z183 bz183 => ?_)
        have bz183 : True ∧ z183.toInt ≤ 10000 := bz183
        exact hret _ _ z183 dX0_walk_76 rfl trivial
      · have c182 := cNLE (x := (gi u 52)) (y := y177d) (X := ((gi u 52)).toInt) (Y := y177d.toInt) rfl rfl c182
        refine lv_aload_n hx hb dX0_walk_17 rfl (lv_at hl 4 rfl) ?_
        refine va_get (ci := 3) (v := .ref (A 40)) (C := RX3) (T := TX3) (N := 3) hx hb hts (fun w h => uc_in w (inX3 w h)) hown hK hP 9 (cwc9 C A u) rfl 2 (by decide) (hts _ (uc_in _ q_f200)) (fun _ h9 => h9) rfl dX0_walk_18 ?_
        refine lv_iload hx hb dX0_walk_21 (lv_at hl 0 rfl) ?_
        refine va_lald hx hb hK hP 40 2 (cwc40 C A u) rfl (i_ix rfl (by omega) (by omega)) dX0_walk_23 ?_
        refine p_anyl (fun z184 => ?_)
        refine lv_lstore (lv' := [(6, .long z184), (5, .int y177d), (4, .int y178d), (3, .int y179d), (0, .ref (A 13)), (2, .ref (A 9))]) hx hb dX0_walk_24 hl (by decide) rfl (fun ls hl => ?_)
        refine lv_lload hx hb dX0_walk_26 (lv_at hl 0 rfl) ?_
        refine lv_lconst (v := 0) hx hb dX0_walk_28 (by decide) ?_
        refine W.lcmp hx hb dX0_walk_29 ?_
        have j63_195 : ∀ (ls : Array Slot) (y192d : Int32) (y193d : Int32), lv_has ls 8 [(5, .int y177d), (4, .int y192d), (3, .int y193d), (0, .ref (A 13)), (2, .ref (A 9))] → W p l e (rmL 3 0 0) s m ar below meth c s.heap [] 0 0 Q (F0 m 63 ls []) := by
          intro ls y192d y193d hl
          obtain ⟨z197, ez197⟩ : ∃ z, z = y177d + Int32.ofInt 1 := ⟨_, rfl⟩
          have hz197 : z197.toInt = y177d.toInt + 1 := by rw [ez197]; exact tt_add rfl (by decide) (by omega) (by omega)
          refine lv_iinc (v := z197) (lv' := [(5, .int z197), (4, .int y192d), (3, .int y193d), (0, .ref (A 13)), (2, .ref (A 9))]) hx hb dX0_walk_63 hl (k := 0) rfl ez197.symm (by decide) rfl (fun ls hl => ?_)
          refine lv_goto (tgt := 8) hx hb dX0_walk_66 (by decide) ?_
          exact ih8_179 ls z197 y192d y193d (by have q9 := (show z197.toInt = (y177d.toInt + 1) from hz197); omega) (by have q9 := (show z197.toInt = (y177d.toInt + 1) from hz197); omega) (by have q9 := (show z197.toInt = (y177d.toInt + 1) from hz197); omega) hl
        refine lv_if_lt (tgt := 63) hx hb dX0_walk_30 (by decide) (fun c185 => ?_) (fun c185 => ?_)
        · have c185 := dLT (X := z184.toInt) (Y := 0) rfl (by decide) c185
          exact j63_195 ls y178d y179d (lv_sub hl [1, 2, 3, 4, 5] rfl)
        · have c185 := dNLT (X := z184.toInt) (Y := 0) rfl (by decide) c185
          refine lv_lload hx hb dX0_walk_33 (lv_at hl 0 rfl) ?_
          refine lv_ldc2 (v := 6) hx hb hown (hts _ (uc_in _ q_k921)) dX0_walk_35 ?_
          refine W.lcmp hx hb dX0_walk_38 ?_
          refine lv_if_ge (tgt := 63) hx hb dX0_walk_39 (by decide) (fun c198 => ?_) (fun c198 => ?_)
          · have c198 := dGE (X := z184.toInt) (Y := 6) rfl (by decide) c198
            exact j63_195 ls y178d y179d (lv_sub hl [1, 2, 3, 4, 5] rfl)
          · have c198 := dNGE (X := z184.toInt) (Y := 6) rfl (by decide) c198
            refine lv_aload_n hx hb dX0_walk_42 rfl (lv_at hl 4 rfl) ?_
            refine lv_lload hx hb dX0_walk_43 (lv_at hl 0 rfl) ?_
            refine lv_l2i hx hb dX0_walk_45 rfl ?_
            refine p_nm (tt_l2i rfl (by omega) (by omega)) (fun z199 hz199 => ?_)
            refine lv_iload hx hb dX0_walk_46 (lv_at hl 2 rfl) ?_
            refine lv_iload_n hx hb dX0_walk_48 rfl (lv_at hl 3 rfl) ?_
            refine cvS (n := 3) (As := [.int z199, .int y178d, .int y179d]) (rest := []) ⟨hx, hb, hml, hown, hts⟩ uc_in (kX0_hearAt_0 l D C A u hI z199 z184.toInt hz199 y178d y178d.toInt rfl y179d y179d.toInt rfl (by omega) (by omega)) q_m897 q_n899 q_p36 q_i7 q_c900 hvX0_hearAt ⟨(Nat.le_of_ble_eq_true rfl), (Nat.le_of_ble_eq_true rfl)⟩ ⟨(Nat.le_of_ble_eq_true rfl), (Nat.le_of_ble_eq_true rfl)⟩ hK hP 0 13 rfl (cwc13 C A u) rfl hl.1 rfl (Nat.le_of_ble_eq_true rfl) dX0_walk_49 (fun r200 p201 => ?_)
            refine lv_istore_n (lv' := [(3, .int r200), (6, .long z184), (5, .int y177d), (4, .int y178d), (0, .ref (A 13)), (2, .ref (A 9))]) hx hb dX0_walk_52 rfl hl (by decide) rfl (fun ls hl => ?_)
            refine lv_aload_n hx hb dX0_walk_53 rfl (lv_at hl 4 rfl) ?_
            refine va_get (ci := 0) (v := .ref (A 79)) (C := RX0) (T := TX0) (N := 6) hx hb hts (fun w h => uc_in w (inX0 w h)) hown hK hP 13 (cwc13 C A u) rfl 4 (by decide) (hts _ (uc_in _ q_f279)) (fun _ h9 => h9) rfl dX0_walk_54 ?_
            refine lv_lload hx hb dX0_walk_57 (lv_at hl 1 rfl) ?_
            refine lv_l2i hx hb dX0_walk_59 rfl ?_
            refine p_nm (tt_l2i rfl (by omega) (by omega)) (fun z202 hz202 => ?_)
            refine va_iald hx hb hK hP 79 1 (cwc79 C A u) rfl (i_ix hz202 (by omega) (by omega)) dX0_walk_60 ?_
            refine p_any (fun z203 => ?_)
            refine lv_istore (lv' := [(4, .int z203), (3, .int r200), (6, .long z184), (5, .int y177d), (0, .ref (A 13)), (2, .ref (A 9))]) hx hb dX0_walk_61 hl (by decide) rfl (fun ls hl => ?_)
            exact j63_195 ls z203 r200 (lv_sub hl [3, 0, 1, 4, 5] rfl)
  exact lp8_179 61 ls 0 a0 0 (by decide) (by decide) (by have q9 : (0 : Int32).toInt = 0 := (by decide); omega) (lv_sub hl [0, 1, 2, 3, 5] rfl)
set_option maxHeartbeats 4000000 in
set_option maxRecDepth 100000 in
theorem kX0_isWay_2 (l : Launch) (D : va_G) (C : Nat → ClassId) (A : Nat → Nat) (u : St) (hI : IC u) (a1 : Int32) (A1 : Int) (ha1 : a1.toInt = A1) : Met l yX0_isWay (uc yX0_isWay cX0_isWay 6 (some .boolean)) (rmL 2 0 0) (va_Pc [.ref (A 10), .int a1] (PreR D (tyl C) (cw C A u))) (vp_Si (fun r => 0 ≤ r.toInt ∧ r.toInt ≤ 1)) 0 0 (fun _ => False) := by
  refine mS (by decide) (Nat.le_of_ble_eq_true rfl) ?_
  intro p e s m below meth c ls ar Q hx hb hml hown hts hK hP hl hret
  have hown : s.vm.findClass RX0 = some m.cls := hown
  have hl : lv_has ls 6 [(0, .ref (A 10)), (1, .int a1)] := hl
  refine lv_iload_n hx hb dX0_isWay_0 rfl (lv_at hl 1 rfl) ?_
  refine lv_istore_n (lv' := [(2, .int a1), (0, .ref (A 10)), (1, .int a1)]) hx hb dX0_isWay_1 rfl hl (by decide) rfl (fun ls hl => ?_)
  refine lv_iconst (v := 0) hx hb dX0_isWay_2 (by decide) ?_
  refine lv_istore_n (lv' := [(3, .int 0), (2, .int a1), (0, .ref (A 10)), (1, .int a1)]) hx hb dX0_isWay_3 rfl hl (by decide) rfl (fun ls hl => ?_)
  have lp4_179 : ∀ (n4 : Nat) (ls : Array Slot) (y178d : Int32) (y179d : Int32), 0 ≤ y178d.toInt → y178d.toInt ≤ 60 → 60 - y178d.toInt < (n4 : Int) → lv_has ls 6 [(3, .int y178d), (2, .int y179d), (0, .ref (A 10))] → W p l e (rmL 2 0 0) s m ar below meth c s.heap [] 0 0 Q (F0 m 4 ls []) := by
    intro n4
    induction n4 with
    | zero => intro ls y178d y179d ly178d my178d hmun4 hl; exfalso; omega
    | succ n4 ih4_179 =>
      intro ls y178d y179d ly178d my178d hmun4 hl
      refine lv_iload_n hx hb dX0_isWay_4 rfl (lv_at hl 0 rfl) ?_
      refine lv_aload_n hx hb dX0_isWay_5 rfl (lv_at hl 2 rfl) ?_
      refine va_get (ci := 3) (v := .int (gi u 54)) (C := RX3) (T := TX3) (N := 3) hx hb hts (fun w h => uc_in w (inX3 w h)) hown hK hP 10 (cwc10 C A u) rfl 0 (by decide) (hts _ (uc_in _ q_f194)) (fun _ h9 => h9) rfl dX0_isWay_6 ?_
      have b181 := hI.b54
      refine lv_icmp_ge (tgt := 64) hx hb dX0_isWay_9 (by decide) (fun c182 => ?_) (fun c182 => ?_)
      · have c182 := cLE (x := (gi u 54)) (y := y178d) (X := ((gi u 54)).toInt) (Y := y178d.toInt) rfl rfl c182
        refine lv_iload_n hx hb dX0_isWay_64 rfl (lv_at hl 1 rfl) ?_
        refine lv_if_ne (tgt := 72) hx hb dX0_isWay_65 (by decide) (fun c183 => ?_) (fun c183 => ?_)
        · refine lv_iconst (v := 0) hx hb dX0_isWay_72 (by decide) ?_
          exact hret _ _ (0 : Int32) dX0_isWay_73 rfl ⟨by decide, by decide⟩
        · have c183 := cEQ (x := y179d) (y := 0) (X := y179d.toInt) (Y := 0) rfl (by decide) c183
          refine lv_iconst (v := 1) hx hb dX0_isWay_68 (by decide) ?_
          refine lv_goto (tgt := 73) hx hb dX0_isWay_69 (by decide) ?_
          exact hret _ _ (1 : Int32) dX0_isWay_73 rfl ⟨by decide, by decide⟩
      · have c182 := cNLE (x := (gi u 54)) (y := y178d) (X := ((gi u 54)).toInt) (Y := y178d.toInt) rfl rfl c182
        refine lv_aload_n hx hb dX0_isWay_12 rfl (lv_at hl 2 rfl) ?_
        refine va_get (ci := 3) (v := .ref (A 41)) (C := RX3) (T := TX3) (N := 3) hx hb hts (fun w h => uc_in w (inX3 w h)) hown hK hP 10 (cwc10 C A u) rfl 2 (by decide) (hts _ (uc_in _ q_f200)) (fun _ h9 => h9) rfl dX0_isWay_13 ?_
        refine lv_iload_n hx hb dX0_isWay_16 rfl (lv_at hl 0 rfl) ?_
        refine va_lald hx hb hK hP 41 2 (cwc41 C A u) rfl (i_ix rfl (by omega) (by omega)) dX0_isWay_17 ?_
        refine p_anyl (fun z184 => ?_)
        refine lv_lstore (lv' := [(4, .long z184), (3, .int y178d), (2, .int y179d), (0, .ref (A 10))]) hx hb dX0_isWay_18 hl (by decide) rfl (fun ls hl => ?_)
        refine lv_lload hx hb dX0_isWay_20 (lv_at hl 0 rfl) ?_
        refine lv_lconst (v := 0) hx hb dX0_isWay_22 (by decide) ?_
        refine W.lcmp hx hb dX0_isWay_23 ?_
        refine lv_if_lt (tgt := 46) hx hb dX0_isWay_24 (by decide) (fun c185 => ?_) (fun c185 => ?_)
        · have c185 := dLT (X := z184.toInt) (Y := 0) rfl (by decide) c185
          refine lv_iconst (v := 0) hx hb dX0_isWay_46 (by decide) ?_
          exact hret _ _ (0 : Int32) dX0_isWay_47 rfl ⟨by decide, by decide⟩
        · have c185 := dNLT (X := z184.toInt) (Y := 0) rfl (by decide) c185
          refine lv_lload hx hb dX0_isWay_27 (lv_at hl 0 rfl) ?_
          refine lv_ldc2 (v := 6) hx hb hown (hts _ (uc_in _ q_k921)) dX0_isWay_29 ?_
          refine W.lcmp hx hb dX0_isWay_32 ?_
          refine lv_if_ge (tgt := 46) hx hb dX0_isWay_33 (by decide) (fun c186 => ?_) (fun c186 => ?_)
          · have c186 := dGE (X := z184.toInt) (Y := 6) rfl (by decide) c186
            refine lv_iconst (v := 0) hx hb dX0_isWay_46 (by decide) ?_
            exact hret _ _ (0 : Int32) dX0_isWay_47 rfl ⟨by decide, by decide⟩
          · have c186 := dNGE (X := z184.toInt) (Y := 6) rfl (by decide) c186
            refine lv_iload_n hx hb dX0_isWay_36 rfl (lv_at hl 2 rfl) ?_
            refine lv_lload hx hb dX0_isWay_37 (lv_at hl 0 rfl) ?_
            refine lv_l2i hx hb dX0_isWay_39 rfl ?_
            refine p_nm (tt_l2i rfl (by omega) (by omega)) (fun z187 hz187 => ?_)
            refine csS (n := 2) (As := [.int y179d, .int z187]) (rest := []) ⟨hx, hb, hml, hown, hts⟩ uc_in (kX5_has_0 l D C A u hI y179d y179d.toInt rfl z187 z184.toInt hz187) q_m896 q_s641 q_i4 q_c642 hvX5_has ⟨(Nat.le_of_ble_eq_true rfl), (Nat.le_of_ble_eq_true rfl)⟩ ⟨(Nat.le_of_ble_eq_true rfl), (Nat.le_of_ble_eq_true rfl)⟩ hK hP rfl hl.1 rfl (Nat.le_of_ble_eq_true rfl) dX0_isWay_40 (fun r188 p189 => ?_)
            have p189 : 0 ≤ r188.toInt ∧ r188.toInt ≤ 1 := p189
            refine lv_if_ne (tgt := 48) hx hb dX0_isWay_43 (by decide) (fun c190 => ?_) (fun c190 => ?_)
            · have c190 := cNE (x := r188) (y := 0) (X := r188.toInt) (Y := 0) rfl (by decide) c190
              refine lv_iload_n hx hb dX0_isWay_48 rfl (lv_at hl 2 rfl) ?_
              refine lv_iconst (v := 1) hx hb dX0_isWay_49 (by decide) ?_
              refine lv_lload hx hb dX0_isWay_50 (lv_at hl 0 rfl) ?_
              refine lv_l2i hx hb dX0_isWay_52 rfl ?_
              refine p_nm (tt_l2i rfl (by omega) (by omega)) (fun z191 hz191 => ?_)
              refine lv_ishl hx hb dX0_isWay_53 ?_
              have gz192 := tt_shl1 (y := z191) (Y := z184.toInt) hz191 (by omega) (by omega)
              refine p_bd (P := fun q => 1 ≤ q ∧ q ≤ 32) ⟨by omega, by omega⟩ (fun z193 bz193 => ?_)
              have bz193 : 1 ≤ z193.toInt ∧ z193.toInt ≤ 32 := bz193
              refine lv_iconst (v := (-1)) hx hb dX0_isWay_54 (by decide) ?_
              refine lv_ixor hx hb dX0_isWay_55 ?_
              refine p_any (fun z194 => ?_)
              refine lv_iand hx hb dX0_isWay_56 ?_
              refine p_any (fun z195 => ?_)
              refine lv_istore_n (lv' := [(2, .int z195), (4, .long z184), (3, .int y178d), (0, .ref (A 10))]) hx hb dX0_isWay_57 rfl hl (by decide) rfl (fun ls hl => ?_)
              obtain ⟨z196, ez196⟩ : ∃ z, z = y178d + Int32.ofInt 1 := ⟨_, rfl⟩
              have hz196 : z196.toInt = y178d.toInt + 1 := by rw [ez196]; exact tt_add rfl (by decide) (by omega) (by omega)
              refine lv_iinc (v := z196) (lv' := [(3, .int z196), (2, .int z195), (4, .long z184), (0, .ref (A 10))]) hx hb dX0_isWay_58 hl (k := 2) rfl ez196.symm (by decide) rfl (fun ls hl => ?_)
              refine lv_goto (tgt := 4) hx hb dX0_isWay_61 (by decide) ?_
              exact ih4_179 ls z196 z195 (by have q9 := (show z196.toInt = (y178d.toInt + 1) from hz196); omega) (by have q9 := (show z196.toInt = (y178d.toInt + 1) from hz196); omega) (by have q9 := (show z196.toInt = (y178d.toInt + 1) from hz196); omega) (lv_sub hl [0, 1, 3] rfl)
            · have c190 := cEQ (x := r188) (y := 0) (X := r188.toInt) (Y := 0) rfl (by decide) c190
              refine lv_iconst (v := 0) hx hb dX0_isWay_46 (by decide) ?_
              exact hret _ _ (0 : Int32) dX0_isWay_47 rfl ⟨by decide, by decide⟩
  exact lp4_179 61 ls 0 a1 (by decide) (by decide) (by have q9 : (0 : Int32).toInt = 0 := (by decide); omega) (lv_sub hl [0, 1, 2] rfl)
set_option maxHeartbeats 4000000 in
set_option maxRecDepth 100000 in
theorem kX0_walk_2 (l : Launch) (D : va_G) (C : Nat → ClassId) (A : Nat → Nat) (u : St) (hI : IC u) (a0 : Int32) (A0 : Int) (ha0 : a0.toInt = A0) : Met l yX0_walk (uc yX0_walk cX0_walk 8 (some .int)) (rmL 3 0 0) (va_Pc [.ref (A 13), .int a0, .ref (A 10)] (PreR D (tyl C) (cw C A u))) (vp_Si (fun r => True)) 0 0 (fun _ => False) := by
  refine mS (by decide) (Nat.le_of_ble_eq_true rfl) ?_
  intro p e s m below meth c ls ar Q hx hb hml hown hts hK hP hl hret
  have hown : s.vm.findClass RX0 = some m.cls := hown
  have hl : lv_has ls 8 [(0, .ref (A 13)), (1, .int a0), (2, .ref (A 10))] := hl
  refine lv_iconst (v := 0) hx hb dX0_walk_0 (by decide) ?_
  refine lv_istore_n (lv' := [(3, .int 0), (0, .ref (A 13)), (1, .int a0), (2, .ref (A 10))]) hx hb dX0_walk_1 rfl hl (by decide) rfl (fun ls hl => ?_)
  refine lv_iload_n hx hb dX0_walk_2 rfl (lv_at hl 2 rfl) ?_
  refine lv_istore (lv' := [(4, .int a0), (3, .int 0), (0, .ref (A 13)), (1, .int a0), (2, .ref (A 10))]) hx hb dX0_walk_3 hl (by decide) rfl (fun ls hl => ?_)
  refine lv_iconst (v := 0) hx hb dX0_walk_5 (by decide) ?_
  refine lv_istore (lv' := [(5, .int 0), (4, .int a0), (3, .int 0), (0, .ref (A 13)), (1, .int a0), (2, .ref (A 10))]) hx hb dX0_walk_6 hl (by decide) rfl (fun ls hl => ?_)
  have lp8_179 : ∀ (n8 : Nat) (ls : Array Slot) (y177d : Int32) (y178d : Int32) (y179d : Int32), 0 ≤ y177d.toInt → y177d.toInt ≤ 60 → 60 - y177d.toInt < (n8 : Int) → lv_has ls 8 [(5, .int y177d), (4, .int y178d), (3, .int y179d), (0, .ref (A 13)), (2, .ref (A 10))] → W p l e (rmL 3 0 0) s m ar below meth c s.heap [] 0 0 Q (F0 m 8 ls []) := by
    intro n8
    induction n8 with
    | zero => intro ls y177d y178d y179d ly177d my177d hmun8 hl; exfalso; omega
    | succ n8 ih8_179 =>
      intro ls y177d y178d y179d ly177d my177d hmun8 hl
      refine lv_iload hx hb dX0_walk_8 (lv_at hl 0 rfl) ?_
      refine lv_aload_n hx hb dX0_walk_10 rfl (lv_at hl 4 rfl) ?_
      refine va_get (ci := 3) (v := .int (gi u 54)) (C := RX3) (T := TX3) (N := 3) hx hb hts (fun w h => uc_in w (inX3 w h)) hown hK hP 10 (cwc10 C A u) rfl 0 (by decide) (hts _ (uc_in _ q_f194)) (fun _ h9 => h9) rfl dX0_walk_11 ?_
      have b181 := hI.b54
      refine lv_icmp_ge (tgt := 69) hx hb dX0_walk_14 (by decide) (fun c182 => ?_) (fun c182 => ?_)
      · have c182 := cLE (x := (gi u 54)) (y := y177d) (X := ((gi u 54)).toInt) (Y := y177d.toInt) rfl rfl c182
        refine lv_iload_n hx hb dX0_walk_69 rfl (lv_at hl 2 rfl) ?_
        refine lv_sipush (v := 10000) hx hb dX0_walk_70 (by decide) ?_
        refine va_mmin hx hb (by rw [hml]; exact hl.1.symm) hown (hts _ (uc_in _ q_m926)) (hts _ (uc_in _ q_s456)) (hts _ (uc_in _ q_i12)) (hts _ (uc_in _ q_c457)) (Nat.le_of_ble_eq_true rfl) (Nat.le_of_ble_eq_true rfl) (Nat.le_of_ble_eq_true rfl) (Nat.le_of_ble_eq_true rfl) dX0_walk_73 ?_
        refine p_bd (P := fun q => True ∧ q ≤ 10000) (by rcases tt_min (x := y179d) (y := 10000) with q9 | q9 <;> rw [q9.1] <;> refine ⟨?_, ?_⟩ <;> first | trivial | (have q7 := (show y179d.toInt = y179d.toInt from rfl); have q8 := (show (10000 : Int32).toInt = 10000 from (by decide)); omega)) (fun z183 bz183 => ?_)
        have bz183 : True ∧ z183.toInt ≤ 10000 := bz183
        exact hret _ _ z183 dX0_walk_76 rfl trivial
      · have c182 := cNLE (x := (gi u 54)) (y := y177d) (X := ((gi u 54)).toInt) (Y := y177d.toInt) rfl rfl c182
        refine lv_aload_n hx hb dX0_walk_17 rfl (lv_at hl 4 rfl) ?_
        refine va_get (ci := 3) (v := .ref (A 41)) (C := RX3) (T := TX3) (N := 3) hx hb hts (fun w h => uc_in w (inX3 w h)) hown hK hP 10 (cwc10 C A u) rfl 2 (by decide) (hts _ (uc_in _ q_f200)) (fun _ h9 => h9) rfl dX0_walk_18 ?_
        refine lv_iload hx hb dX0_walk_21 (lv_at hl 0 rfl) ?_
        refine va_lald hx hb hK hP 41 2 (cwc41 C A u) rfl (i_ix rfl (by omega) (by omega)) dX0_walk_23 ?_
        refine p_anyl (fun z184 => ?_)
        refine lv_lstore (lv' := [(6, .long z184), (5, .int y177d), (4, .int y178d), (3, .int y179d), (0, .ref (A 13)), (2, .ref (A 10))]) hx hb dX0_walk_24 hl (by decide) rfl (fun ls hl => ?_)
        refine lv_lload hx hb dX0_walk_26 (lv_at hl 0 rfl) ?_
        refine lv_lconst (v := 0) hx hb dX0_walk_28 (by decide) ?_
        refine W.lcmp hx hb dX0_walk_29 ?_
        have j63_195 : ∀ (ls : Array Slot) (y192d : Int32) (y193d : Int32), lv_has ls 8 [(5, .int y177d), (4, .int y192d), (3, .int y193d), (0, .ref (A 13)), (2, .ref (A 10))] → W p l e (rmL 3 0 0) s m ar below meth c s.heap [] 0 0 Q (F0 m 63 ls []) := by
          intro ls y192d y193d hl
          obtain ⟨z197, ez197⟩ : ∃ z, z = y177d + Int32.ofInt 1 := ⟨_, rfl⟩
          have hz197 : z197.toInt = y177d.toInt + 1 := by rw [ez197]; exact tt_add rfl (by decide) (by omega) (by omega)
          refine lv_iinc (v := z197) (lv' := [(5, .int z197), (4, .int y192d), (3, .int y193d), (0, .ref (A 13)), (2, .ref (A 10))]) hx hb dX0_walk_63 hl (k := 0) rfl ez197.symm (by decide) rfl (fun ls hl => ?_)
          refine lv_goto (tgt := 8) hx hb dX0_walk_66 (by decide) ?_
          exact ih8_179 ls z197 y192d y193d (by have q9 := (show z197.toInt = (y177d.toInt + 1) from hz197); omega) (by have q9 := (show z197.toInt = (y177d.toInt + 1) from hz197); omega) (by have q9 := (show z197.toInt = (y177d.toInt + 1) from hz197); omega) hl
        refine lv_if_lt (tgt := 63) hx hb dX0_walk_30 (by decide) (fun c185 => ?_) (fun c185 => ?_)
        · have c185 := dLT (X := z184.toInt) (Y := 0) rfl (by decide) c185
          exact j63_195 ls y178d y179d (lv_sub hl [1, 2, 3, 4, 5] rfl)
        · have c185 := dNLT (X := z184.toInt) (Y := 0) rfl (by decide) c185
          refine lv_lload hx hb dX0_walk_33 (lv_at hl 0 rfl) ?_
          refine lv_ldc2 (v := 6) hx hb hown (hts _ (uc_in _ q_k921)) dX0_walk_35 ?_
          refine W.lcmp hx hb dX0_walk_38 ?_
          refine lv_if_ge (tgt := 63) hx hb dX0_walk_39 (by decide) (fun c198 => ?_) (fun c198 => ?_)
          · have c198 := dGE (X := z184.toInt) (Y := 6) rfl (by decide) c198
            exact j63_195 ls y178d y179d (lv_sub hl [1, 2, 3, 4, 5] rfl)
          · have c198 := dNGE (X := z184.toInt) (Y := 6) rfl (by decide) c198
            refine lv_aload_n hx hb dX0_walk_42 rfl (lv_at hl 4 rfl) ?_
            refine lv_lload hx hb dX0_walk_43 (lv_at hl 0 rfl) ?_
            refine lv_l2i hx hb dX0_walk_45 rfl ?_
            refine p_nm (tt_l2i rfl (by omega) (by omega)) (fun z199 hz199 => ?_)
            refine lv_iload hx hb dX0_walk_46 (lv_at hl 2 rfl) ?_
            refine lv_iload_n hx hb dX0_walk_48 rfl (lv_at hl 3 rfl) ?_
            refine cvS (n := 3) (As := [.int z199, .int y178d, .int y179d]) (rest := []) ⟨hx, hb, hml, hown, hts⟩ uc_in (kX0_hearAt_0 l D C A u hI z199 z184.toInt hz199 y178d y178d.toInt rfl y179d y179d.toInt rfl (by omega) (by omega)) q_m897 q_n899 q_p36 q_i7 q_c900 hvX0_hearAt ⟨(Nat.le_of_ble_eq_true rfl), (Nat.le_of_ble_eq_true rfl)⟩ ⟨(Nat.le_of_ble_eq_true rfl), (Nat.le_of_ble_eq_true rfl)⟩ hK hP 0 13 rfl (cwc13 C A u) rfl hl.1 rfl (Nat.le_of_ble_eq_true rfl) dX0_walk_49 (fun r200 p201 => ?_)
            refine lv_istore_n (lv' := [(3, .int r200), (6, .long z184), (5, .int y177d), (4, .int y178d), (0, .ref (A 13)), (2, .ref (A 10))]) hx hb dX0_walk_52 rfl hl (by decide) rfl (fun ls hl => ?_)
            refine lv_aload_n hx hb dX0_walk_53 rfl (lv_at hl 4 rfl) ?_
            refine va_get (ci := 0) (v := .ref (A 79)) (C := RX0) (T := TX0) (N := 6) hx hb hts (fun w h => uc_in w (inX0 w h)) hown hK hP 13 (cwc13 C A u) rfl 4 (by decide) (hts _ (uc_in _ q_f279)) (fun _ h9 => h9) rfl dX0_walk_54 ?_
            refine lv_lload hx hb dX0_walk_57 (lv_at hl 1 rfl) ?_
            refine lv_l2i hx hb dX0_walk_59 rfl ?_
            refine p_nm (tt_l2i rfl (by omega) (by omega)) (fun z202 hz202 => ?_)
            refine va_iald hx hb hK hP 79 1 (cwc79 C A u) rfl (i_ix hz202 (by omega) (by omega)) dX0_walk_60 ?_
            refine p_any (fun z203 => ?_)
            refine lv_istore (lv' := [(4, .int z203), (3, .int r200), (6, .long z184), (5, .int y177d), (0, .ref (A 13)), (2, .ref (A 10))]) hx hb dX0_walk_61 hl (by decide) rfl (fun ls hl => ?_)
            exact j63_195 ls z203 r200 (lv_sub hl [3, 0, 1, 4, 5] rfl)
  exact lp8_179 61 ls 0 a0 0 (by decide) (by decide) (by have q9 : (0 : Int32).toInt = 0 := (by decide); omega) (lv_sub hl [0, 1, 2, 3, 5] rfl)
set_option maxHeartbeats 4000000 in
set_option maxRecDepth 100000 in
theorem kX0_isWay_3 (l : Launch) (D : va_G) (C : Nat → ClassId) (A : Nat → Nat) (u : St) (hI : IC u) (a1 : Int32) (A1 : Int) (ha1 : a1.toInt = A1) : Met l yX0_isWay (uc yX0_isWay cX0_isWay 6 (some .boolean)) (rmL 2 0 0) (va_Pc [.ref (A 11), .int a1] (PreR D (tyl C) (cw C A u))) (vp_Si (fun r => 0 ≤ r.toInt ∧ r.toInt ≤ 1)) 0 0 (fun _ => False) := by
  refine mS (by decide) (Nat.le_of_ble_eq_true rfl) ?_
  intro p e s m below meth c ls ar Q hx hb hml hown hts hK hP hl hret
  have hown : s.vm.findClass RX0 = some m.cls := hown
  have hl : lv_has ls 6 [(0, .ref (A 11)), (1, .int a1)] := hl
  refine lv_iload_n hx hb dX0_isWay_0 rfl (lv_at hl 1 rfl) ?_
  refine lv_istore_n (lv' := [(2, .int a1), (0, .ref (A 11)), (1, .int a1)]) hx hb dX0_isWay_1 rfl hl (by decide) rfl (fun ls hl => ?_)
  refine lv_iconst (v := 0) hx hb dX0_isWay_2 (by decide) ?_
  refine lv_istore_n (lv' := [(3, .int 0), (2, .int a1), (0, .ref (A 11)), (1, .int a1)]) hx hb dX0_isWay_3 rfl hl (by decide) rfl (fun ls hl => ?_)
  have lp4_179 : ∀ (n4 : Nat) (ls : Array Slot) (y178d : Int32) (y179d : Int32), 0 ≤ y178d.toInt → y178d.toInt ≤ 60 → 60 - y178d.toInt < (n4 : Int) → lv_has ls 6 [(3, .int y178d), (2, .int y179d), (0, .ref (A 11))] → W p l e (rmL 2 0 0) s m ar below meth c s.heap [] 0 0 Q (F0 m 4 ls []) := by
    intro n4
    induction n4 with
    | zero => intro ls y178d y179d ly178d my178d hmun4 hl; exfalso; omega
    | succ n4 ih4_179 =>
      intro ls y178d y179d ly178d my178d hmun4 hl
      refine lv_iload_n hx hb dX0_isWay_4 rfl (lv_at hl 0 rfl) ?_
      refine lv_aload_n hx hb dX0_isWay_5 rfl (lv_at hl 2 rfl) ?_
      refine va_get (ci := 3) (v := .int (gi u 56)) (C := RX3) (T := TX3) (N := 3) hx hb hts (fun w h => uc_in w (inX3 w h)) hown hK hP 11 (cwc11 C A u) rfl 0 (by decide) (hts _ (uc_in _ q_f194)) (fun _ h9 => h9) rfl dX0_isWay_6 ?_
      have b181 := hI.b56
      refine lv_icmp_ge (tgt := 64) hx hb dX0_isWay_9 (by decide) (fun c182 => ?_) (fun c182 => ?_)
      · have c182 := cLE (x := (gi u 56)) (y := y178d) (X := ((gi u 56)).toInt) (Y := y178d.toInt) rfl rfl c182
        refine lv_iload_n hx hb dX0_isWay_64 rfl (lv_at hl 1 rfl) ?_
        refine lv_if_ne (tgt := 72) hx hb dX0_isWay_65 (by decide) (fun c183 => ?_) (fun c183 => ?_)
        · refine lv_iconst (v := 0) hx hb dX0_isWay_72 (by decide) ?_
          exact hret _ _ (0 : Int32) dX0_isWay_73 rfl ⟨by decide, by decide⟩
        · have c183 := cEQ (x := y179d) (y := 0) (X := y179d.toInt) (Y := 0) rfl (by decide) c183
          refine lv_iconst (v := 1) hx hb dX0_isWay_68 (by decide) ?_
          refine lv_goto (tgt := 73) hx hb dX0_isWay_69 (by decide) ?_
          exact hret _ _ (1 : Int32) dX0_isWay_73 rfl ⟨by decide, by decide⟩
      · have c182 := cNLE (x := (gi u 56)) (y := y178d) (X := ((gi u 56)).toInt) (Y := y178d.toInt) rfl rfl c182
        refine lv_aload_n hx hb dX0_isWay_12 rfl (lv_at hl 2 rfl) ?_
        refine va_get (ci := 3) (v := .ref (A 42)) (C := RX3) (T := TX3) (N := 3) hx hb hts (fun w h => uc_in w (inX3 w h)) hown hK hP 11 (cwc11 C A u) rfl 2 (by decide) (hts _ (uc_in _ q_f200)) (fun _ h9 => h9) rfl dX0_isWay_13 ?_
        refine lv_iload_n hx hb dX0_isWay_16 rfl (lv_at hl 0 rfl) ?_
        refine va_lald hx hb hK hP 42 2 (cwc42 C A u) rfl (i_ix rfl (by omega) (by omega)) dX0_isWay_17 ?_
        refine p_anyl (fun z184 => ?_)
        refine lv_lstore (lv' := [(4, .long z184), (3, .int y178d), (2, .int y179d), (0, .ref (A 11))]) hx hb dX0_isWay_18 hl (by decide) rfl (fun ls hl => ?_)
        refine lv_lload hx hb dX0_isWay_20 (lv_at hl 0 rfl) ?_
        refine lv_lconst (v := 0) hx hb dX0_isWay_22 (by decide) ?_
        refine W.lcmp hx hb dX0_isWay_23 ?_
        refine lv_if_lt (tgt := 46) hx hb dX0_isWay_24 (by decide) (fun c185 => ?_) (fun c185 => ?_)
        · have c185 := dLT (X := z184.toInt) (Y := 0) rfl (by decide) c185
          refine lv_iconst (v := 0) hx hb dX0_isWay_46 (by decide) ?_
          exact hret _ _ (0 : Int32) dX0_isWay_47 rfl ⟨by decide, by decide⟩
        · have c185 := dNLT (X := z184.toInt) (Y := 0) rfl (by decide) c185
          refine lv_lload hx hb dX0_isWay_27 (lv_at hl 0 rfl) ?_
          refine lv_ldc2 (v := 6) hx hb hown (hts _ (uc_in _ q_k921)) dX0_isWay_29 ?_
          refine W.lcmp hx hb dX0_isWay_32 ?_
          refine lv_if_ge (tgt := 46) hx hb dX0_isWay_33 (by decide) (fun c186 => ?_) (fun c186 => ?_)
          · have c186 := dGE (X := z184.toInt) (Y := 6) rfl (by decide) c186
            refine lv_iconst (v := 0) hx hb dX0_isWay_46 (by decide) ?_
            exact hret _ _ (0 : Int32) dX0_isWay_47 rfl ⟨by decide, by decide⟩
          · have c186 := dNGE (X := z184.toInt) (Y := 6) rfl (by decide) c186
            refine lv_iload_n hx hb dX0_isWay_36 rfl (lv_at hl 2 rfl) ?_
            refine lv_lload hx hb dX0_isWay_37 (lv_at hl 0 rfl) ?_
            refine lv_l2i hx hb dX0_isWay_39 rfl ?_
            refine p_nm (tt_l2i rfl (by omega) (by omega)) (fun z187 hz187 => ?_)
            refine csS (n := 2) (As := [.int y179d, .int z187]) (rest := []) ⟨hx, hb, hml, hown, hts⟩ uc_in (kX5_has_0 l D C A u hI y179d y179d.toInt rfl z187 z184.toInt hz187) q_m896 q_s641 q_i4 q_c642 hvX5_has ⟨(Nat.le_of_ble_eq_true rfl), (Nat.le_of_ble_eq_true rfl)⟩ ⟨(Nat.le_of_ble_eq_true rfl), (Nat.le_of_ble_eq_true rfl)⟩ hK hP rfl hl.1 rfl (Nat.le_of_ble_eq_true rfl) dX0_isWay_40 (fun r188 p189 => ?_)
            have p189 : 0 ≤ r188.toInt ∧ r188.toInt ≤ 1 := p189
            refine lv_if_ne (tgt := 48) hx hb dX0_isWay_43 (by decide) (fun c190 => ?_) (fun c190 => ?_)
            · have c190 := cNE (x := r188) (y := 0) (X := r188.toInt) (Y := 0) rfl (by decide) c190
              refine lv_iload_n hx hb dX0_isWay_48 rfl (lv_at hl 2 rfl) ?_
              refine lv_iconst (v := 1) hx hb dX0_isWay_49 (by decide) ?_
              refine lv_lload hx hb dX0_isWay_50 (lv_at hl 0 rfl) ?_
              refine lv_l2i hx hb dX0_isWay_52 rfl ?_
              refine p_nm (tt_l2i rfl (by omega) (by omega)) (fun z191 hz191 => ?_)
              refine lv_ishl hx hb dX0_isWay_53 ?_
              have gz192 := tt_shl1 (y := z191) (Y := z184.toInt) hz191 (by omega) (by omega)
              refine p_bd (P := fun q => 1 ≤ q ∧ q ≤ 32) ⟨by omega, by omega⟩ (fun z193 bz193 => ?_)
              have bz193 : 1 ≤ z193.toInt ∧ z193.toInt ≤ 32 := bz193
              refine lv_iconst (v := (-1)) hx hb dX0_isWay_54 (by decide) ?_
              refine lv_ixor hx hb dX0_isWay_55 ?_
              refine p_any (fun z194 => ?_)
              refine lv_iand hx hb dX0_isWay_56 ?_
              refine p_any (fun z195 => ?_)
              refine lv_istore_n (lv' := [(2, .int z195), (4, .long z184), (3, .int y178d), (0, .ref (A 11))]) hx hb dX0_isWay_57 rfl hl (by decide) rfl (fun ls hl => ?_)
              obtain ⟨z196, ez196⟩ : ∃ z, z = y178d + Int32.ofInt 1 := ⟨_, rfl⟩
              have hz196 : z196.toInt = y178d.toInt + 1 := by rw [ez196]; exact tt_add rfl (by decide) (by omega) (by omega)
              refine lv_iinc (v := z196) (lv' := [(3, .int z196), (2, .int z195), (4, .long z184), (0, .ref (A 11))]) hx hb dX0_isWay_58 hl (k := 2) rfl ez196.symm (by decide) rfl (fun ls hl => ?_)
              refine lv_goto (tgt := 4) hx hb dX0_isWay_61 (by decide) ?_
              exact ih4_179 ls z196 z195 (by have q9 := (show z196.toInt = (y178d.toInt + 1) from hz196); omega) (by have q9 := (show z196.toInt = (y178d.toInt + 1) from hz196); omega) (by have q9 := (show z196.toInt = (y178d.toInt + 1) from hz196); omega) (lv_sub hl [0, 1, 3] rfl)
            · have c190 := cEQ (x := r188) (y := 0) (X := r188.toInt) (Y := 0) rfl (by decide) c190
              refine lv_iconst (v := 0) hx hb dX0_isWay_46 (by decide) ?_
              exact hret _ _ (0 : Int32) dX0_isWay_47 rfl ⟨by decide, by decide⟩
  exact lp4_179 61 ls 0 a1 (by decide) (by decide) (by have q9 : (0 : Int32).toInt = 0 := (by decide); omega) (lv_sub hl [0, 1, 2] rfl)
set_option maxHeartbeats 4000000 in
set_option maxRecDepth 100000 in
theorem kX0_walk_3 (l : Launch) (D : va_G) (C : Nat → ClassId) (A : Nat → Nat) (u : St) (hI : IC u) (a0 : Int32) (A0 : Int) (ha0 : a0.toInt = A0) : Met l yX0_walk (uc yX0_walk cX0_walk 8 (some .int)) (rmL 3 0 0) (va_Pc [.ref (A 13), .int a0, .ref (A 11)] (PreR D (tyl C) (cw C A u))) (vp_Si (fun r => True)) 0 0 (fun _ => False) := by
  refine mS (by decide) (Nat.le_of_ble_eq_true rfl) ?_
  intro p e s m below meth c ls ar Q hx hb hml hown hts hK hP hl hret
  have hown : s.vm.findClass RX0 = some m.cls := hown
  have hl : lv_has ls 8 [(0, .ref (A 13)), (1, .int a0), (2, .ref (A 11))] := hl
  refine lv_iconst (v := 0) hx hb dX0_walk_0 (by decide) ?_
  refine lv_istore_n (lv' := [(3, .int 0), (0, .ref (A 13)), (1, .int a0), (2, .ref (A 11))]) hx hb dX0_walk_1 rfl hl (by decide) rfl (fun ls hl => ?_)
  refine lv_iload_n hx hb dX0_walk_2 rfl (lv_at hl 2 rfl) ?_
  refine lv_istore (lv' := [(4, .int a0), (3, .int 0), (0, .ref (A 13)), (1, .int a0), (2, .ref (A 11))]) hx hb dX0_walk_3 hl (by decide) rfl (fun ls hl => ?_)
  refine lv_iconst (v := 0) hx hb dX0_walk_5 (by decide) ?_
  refine lv_istore (lv' := [(5, .int 0), (4, .int a0), (3, .int 0), (0, .ref (A 13)), (1, .int a0), (2, .ref (A 11))]) hx hb dX0_walk_6 hl (by decide) rfl (fun ls hl => ?_)
  have lp8_179 : ∀ (n8 : Nat) (ls : Array Slot) (y177d : Int32) (y178d : Int32) (y179d : Int32), 0 ≤ y177d.toInt → y177d.toInt ≤ 60 → 60 - y177d.toInt < (n8 : Int) → lv_has ls 8 [(5, .int y177d), (4, .int y178d), (3, .int y179d), (0, .ref (A 13)), (2, .ref (A 11))] → W p l e (rmL 3 0 0) s m ar below meth c s.heap [] 0 0 Q (F0 m 8 ls []) := by
    intro n8
    induction n8 with
    | zero => intro ls y177d y178d y179d ly177d my177d hmun8 hl; exfalso; omega
    | succ n8 ih8_179 =>
      intro ls y177d y178d y179d ly177d my177d hmun8 hl
      refine lv_iload hx hb dX0_walk_8 (lv_at hl 0 rfl) ?_
      refine lv_aload_n hx hb dX0_walk_10 rfl (lv_at hl 4 rfl) ?_
      refine va_get (ci := 3) (v := .int (gi u 56)) (C := RX3) (T := TX3) (N := 3) hx hb hts (fun w h => uc_in w (inX3 w h)) hown hK hP 11 (cwc11 C A u) rfl 0 (by decide) (hts _ (uc_in _ q_f194)) (fun _ h9 => h9) rfl dX0_walk_11 ?_
      have b181 := hI.b56
      refine lv_icmp_ge (tgt := 69) hx hb dX0_walk_14 (by decide) (fun c182 => ?_) (fun c182 => ?_)
      · have c182 := cLE (x := (gi u 56)) (y := y177d) (X := ((gi u 56)).toInt) (Y := y177d.toInt) rfl rfl c182
        refine lv_iload_n hx hb dX0_walk_69 rfl (lv_at hl 2 rfl) ?_
        refine lv_sipush (v := 10000) hx hb dX0_walk_70 (by decide) ?_
        refine va_mmin hx hb (by rw [hml]; exact hl.1.symm) hown (hts _ (uc_in _ q_m926)) (hts _ (uc_in _ q_s456)) (hts _ (uc_in _ q_i12)) (hts _ (uc_in _ q_c457)) (Nat.le_of_ble_eq_true rfl) (Nat.le_of_ble_eq_true rfl) (Nat.le_of_ble_eq_true rfl) (Nat.le_of_ble_eq_true rfl) dX0_walk_73 ?_
        refine p_bd (P := fun q => True ∧ q ≤ 10000) (by rcases tt_min (x := y179d) (y := 10000) with q9 | q9 <;> rw [q9.1] <;> refine ⟨?_, ?_⟩ <;> first | trivial | (have q7 := (show y179d.toInt = y179d.toInt from rfl); have q8 := (show (10000 : Int32).toInt = 10000 from (by decide)); omega)) (fun z183 bz183 => ?_)
        have bz183 : True ∧ z183.toInt ≤ 10000 := bz183
        exact hret _ _ z183 dX0_walk_76 rfl trivial
      · have c182 := cNLE (x := (gi u 56)) (y := y177d) (X := ((gi u 56)).toInt) (Y := y177d.toInt) rfl rfl c182
        refine lv_aload_n hx hb dX0_walk_17 rfl (lv_at hl 4 rfl) ?_
        refine va_get (ci := 3) (v := .ref (A 42)) (C := RX3) (T := TX3) (N := 3) hx hb hts (fun w h => uc_in w (inX3 w h)) hown hK hP 11 (cwc11 C A u) rfl 2 (by decide) (hts _ (uc_in _ q_f200)) (fun _ h9 => h9) rfl dX0_walk_18 ?_
        refine lv_iload hx hb dX0_walk_21 (lv_at hl 0 rfl) ?_
        refine va_lald hx hb hK hP 42 2 (cwc42 C A u) rfl (i_ix rfl (by omega) (by omega)) dX0_walk_23 ?_
        refine p_anyl (fun z184 => ?_)
        refine lv_lstore (lv' := [(6, .long z184), (5, .int y177d), (4, .int y178d), (3, .int y179d), (0, .ref (A 13)), (2, .ref (A 11))]) hx hb dX0_walk_24 hl (by decide) rfl (fun ls hl => ?_)
        refine lv_lload hx hb dX0_walk_26 (lv_at hl 0 rfl) ?_
        refine lv_lconst (v := 0) hx hb dX0_walk_28 (by decide) ?_
        refine W.lcmp hx hb dX0_walk_29 ?_
        have j63_195 : ∀ (ls : Array Slot) (y192d : Int32) (y193d : Int32), lv_has ls 8 [(5, .int y177d), (4, .int y192d), (3, .int y193d), (0, .ref (A 13)), (2, .ref (A 11))] → W p l e (rmL 3 0 0) s m ar below meth c s.heap [] 0 0 Q (F0 m 63 ls []) := by
          intro ls y192d y193d hl
          obtain ⟨z197, ez197⟩ : ∃ z, z = y177d + Int32.ofInt 1 := ⟨_, rfl⟩
          have hz197 : z197.toInt = y177d.toInt + 1 := by rw [ez197]; exact tt_add rfl (by decide) (by omega) (by omega)
          refine lv_iinc (v := z197) (lv' := [(5, .int z197), (4, .int y192d), (3, .int y193d), (0, .ref (A 13)), (2, .ref (A 11))]) hx hb dX0_walk_63 hl (k := 0) rfl ez197.symm (by decide) rfl (fun ls hl => ?_)
          refine lv_goto (tgt := 8) hx hb dX0_walk_66 (by decide) ?_
          exact ih8_179 ls z197 y192d y193d (by have q9 := (show z197.toInt = (y177d.toInt + 1) from hz197); omega) (by have q9 := (show z197.toInt = (y177d.toInt + 1) from hz197); omega) (by have q9 := (show z197.toInt = (y177d.toInt + 1) from hz197); omega) hl
        refine lv_if_lt (tgt := 63) hx hb dX0_walk_30 (by decide) (fun c185 => ?_) (fun c185 => ?_)
        · have c185 := dLT (X := z184.toInt) (Y := 0) rfl (by decide) c185
          exact j63_195 ls y178d y179d (lv_sub hl [1, 2, 3, 4, 5] rfl)
        · have c185 := dNLT (X := z184.toInt) (Y := 0) rfl (by decide) c185
          refine lv_lload hx hb dX0_walk_33 (lv_at hl 0 rfl) ?_
          refine lv_ldc2 (v := 6) hx hb hown (hts _ (uc_in _ q_k921)) dX0_walk_35 ?_
          refine W.lcmp hx hb dX0_walk_38 ?_
          refine lv_if_ge (tgt := 63) hx hb dX0_walk_39 (by decide) (fun c198 => ?_) (fun c198 => ?_)
          · have c198 := dGE (X := z184.toInt) (Y := 6) rfl (by decide) c198
            exact j63_195 ls y178d y179d (lv_sub hl [1, 2, 3, 4, 5] rfl)
          · have c198 := dNGE (X := z184.toInt) (Y := 6) rfl (by decide) c198
            refine lv_aload_n hx hb dX0_walk_42 rfl (lv_at hl 4 rfl) ?_
            refine lv_lload hx hb dX0_walk_43 (lv_at hl 0 rfl) ?_
            refine lv_l2i hx hb dX0_walk_45 rfl ?_
            refine p_nm (tt_l2i rfl (by omega) (by omega)) (fun z199 hz199 => ?_)
            refine lv_iload hx hb dX0_walk_46 (lv_at hl 2 rfl) ?_
            refine lv_iload_n hx hb dX0_walk_48 rfl (lv_at hl 3 rfl) ?_
            refine cvS (n := 3) (As := [.int z199, .int y178d, .int y179d]) (rest := []) ⟨hx, hb, hml, hown, hts⟩ uc_in (kX0_hearAt_0 l D C A u hI z199 z184.toInt hz199 y178d y178d.toInt rfl y179d y179d.toInt rfl (by omega) (by omega)) q_m897 q_n899 q_p36 q_i7 q_c900 hvX0_hearAt ⟨(Nat.le_of_ble_eq_true rfl), (Nat.le_of_ble_eq_true rfl)⟩ ⟨(Nat.le_of_ble_eq_true rfl), (Nat.le_of_ble_eq_true rfl)⟩ hK hP 0 13 rfl (cwc13 C A u) rfl hl.1 rfl (Nat.le_of_ble_eq_true rfl) dX0_walk_49 (fun r200 p201 => ?_)
            refine lv_istore_n (lv' := [(3, .int r200), (6, .long z184), (5, .int y177d), (4, .int y178d), (0, .ref (A 13)), (2, .ref (A 11))]) hx hb dX0_walk_52 rfl hl (by decide) rfl (fun ls hl => ?_)
            refine lv_aload_n hx hb dX0_walk_53 rfl (lv_at hl 4 rfl) ?_
            refine va_get (ci := 0) (v := .ref (A 79)) (C := RX0) (T := TX0) (N := 6) hx hb hts (fun w h => uc_in w (inX0 w h)) hown hK hP 13 (cwc13 C A u) rfl 4 (by decide) (hts _ (uc_in _ q_f279)) (fun _ h9 => h9) rfl dX0_walk_54 ?_
            refine lv_lload hx hb dX0_walk_57 (lv_at hl 1 rfl) ?_
            refine lv_l2i hx hb dX0_walk_59 rfl ?_
            refine p_nm (tt_l2i rfl (by omega) (by omega)) (fun z202 hz202 => ?_)
            refine va_iald hx hb hK hP 79 1 (cwc79 C A u) rfl (i_ix hz202 (by omega) (by omega)) dX0_walk_60 ?_
            refine p_any (fun z203 => ?_)
            refine lv_istore (lv' := [(4, .int z203), (3, .int r200), (6, .long z184), (5, .int y177d), (0, .ref (A 13)), (2, .ref (A 11))]) hx hb dX0_walk_61 hl (by decide) rfl (fun ls hl => ?_)
            exact j63_195 ls z203 r200 (lv_sub hl [3, 0, 1, 4, 5] rfl)
  exact lp8_179 61 ls 0 a0 0 (by decide) (by decide) (by have q9 : (0 : Int32).toInt = 0 := (by decide); omega) (lv_sub hl [0, 1, 2, 3, 5] rfl)
set_option maxHeartbeats 4000000 in
set_option maxRecDepth 100000 in
theorem kX9_goes_0 (l : Launch) (D : va_G) (C : Nat → ClassId) (A : Nat → Nat) (u : St) (hI : IC u) (a0 : Int32) (A0 : Int) (ha0 : a0.toInt = A0) (a1 : Int32) (A1 : Int) (ha1 : a1.toInt = A1) (sz : Nat) : MetI l yX9_goes cX9_goes 4 (some .int) 4 [.ref (A 0), .int a0, .int a1] D (tyl C) (cw C A) X0 u sz (fun r u' => IC u' ∧ Un [] [(79, 79), (80, 80)] [] u u' ∧ (True)) := by
  refine mI (by decide) (Nat.le_of_ble_eq_true rfl) ?_
  intro p e s m below meth c ls ar Q hx hb hml hown hts hK hH hX hl hret
  have hown : s.vm.findClass RX9 = some m.cls := hown
  have hl : lv_has ls 4 [(0, .ref (A 0)), (1, .int a0), (2, .int a1)] := hl
  refine lv_aload_n hx hb dX9_goes_0 rfl (lv_at hl 0 rfl) ?_
  refine lv_iload_n hx hb dX9_goes_1 rfl (lv_at hl 2 rfl) ?_
  refine cvS (n := 1) (As := [.int a1]) (rest := []) ⟨hx, hb, hml, hown, hts⟩ uc_in (kX9_isDay_0 l D C A u hI a1 A1 ha1) q_m597 q_n599 q_p12 q_i1 q_c600 hvX9_isDay ⟨(Nat.le_of_ble_eq_true rfl), (Nat.le_of_ble_eq_true rfl)⟩ ⟨(Nat.le_of_ble_eq_true rfl), (Nat.le_of_ble_eq_true rfl)⟩ hK hH.1 9 0 rfl (cwc0 C A u) rfl hl.1 rfl (Nat.le_of_ble_eq_true rfl) dX9_goes_2 (fun r1 p2 => ?_)
  rcases p2 with ⟨e9, f3, f4⟩ | e9
  · subst e9
    have b6 := hI.b48
    refine lv_if_eq (tgt := 15) hx hb dX9_goes_5 (by decide) (fun c7 => absurd c7 (by decide)) (fun c7 => ?_)
    refine lv_iload_n hx hb dX9_goes_8 rfl (lv_at hl 1 rfl) ?_
    refine csS (n := 1) (As := [.int a0]) (rest := []) ⟨hx, hb, hml, hown, hts⟩ uc_in (kX9_isSlot_0 l D C A u hI a0 A0 ha0) q_m911 q_s912 q_i1 q_c913 hvX9_isSlot ⟨(Nat.le_of_ble_eq_true rfl), (Nat.le_of_ble_eq_true rfl)⟩ ⟨(Nat.le_of_ble_eq_true rfl), (Nat.le_of_ble_eq_true rfl)⟩ hK hH.1 rfl hl.1 rfl (Nat.le_of_ble_eq_true rfl) dX9_goes_9 (fun r8 p9 => ?_)
    rcases p9 with ⟨e9, f10, f11⟩ | ⟨e9, fn12⟩
    · subst e9
      refine lv_if_ne (tgt := 18) hx hb dX9_goes_12 (by decide) (fun c13 => ?_) (fun c13 => absurd c13 (by decide))
      refine lv_aload_n hx hb dX9_goes_18 rfl (lv_at hl 0 rfl) ?_
      refine va_get (ci := 9) (v := .ref (A 18)) (C := RX9) (T := TX9) (N := 12) hx hb hts (fun w h => uc_in w (inX9 w h)) hown hK hH.1 0 (cwc0 C A u) rfl 6 (by decide) (hts _ (uc_in _ q_f389)) (fun _ h9 => h9) rfl dX9_goes_19 ?_
      refine lv_iload_n hx hb dX9_goes_22 rfl (lv_at hl 1 rfl) ?_
      rcases (show A0 = 0 ∨ A0 = 1 ∨ A0 = 2 ∨ A0 = 3 by omega) with e9 | e9 | e9 | e9
      · have e8 : a0 = 0 := i_lit ha0 (by rw [e9]; decide)
        subst e8
        have q8 : (0 : Int32).toInt = 0 := by decide
        refine r_aald hx hb hK hH.1 18 5 rfl (cwc18 C A u) rfl (i_ix (X := 0) (by decide) (by decide) (by decide)) dX9_goes_23 ?_
        refine pv_v (v := .ref (A 8)) rfl ?_
        refine lv_astore_n (lv' := [(3, .ref (A 8)), (0, .ref (A 0)), (1, .int 0), (2, .int a1)]) hx hb dX9_goes_24 rfl hl (by decide) rfl (fun ls hl => ?_)
        refine lv_aload_n hx hb dX9_goes_25 rfl (lv_at hl 0 rfl) ?_
        refine cvS (n := 0) (As := []) (rest := []) ⟨hx, hb, hml, hown, hts⟩ uc_in (kX3_isThere_0 l D C A u hI ) q_m914 q_n915 q_e916 q_i5 q_c917 hvX3_isThere ⟨(Nat.le_of_ble_eq_true rfl), (Nat.le_of_ble_eq_true rfl)⟩ ⟨(Nat.le_of_ble_eq_true rfl), (Nat.le_of_ble_eq_true rfl)⟩ hK hH.1 3 8 rfl (cwc8 C A u) rfl hl.1 rfl (Nat.le_of_ble_eq_true rfl) dX9_goes_26 (fun r14 p15 => ?_)
        rcases p15 with ⟨e9, f16⟩ | ⟨e9, fn18⟩
        · subst e9
          have b19 := hI.b50
          refine lv_if_ne (tgt := 35) hx hb dX9_goes_29 (by decide) (fun c20 => ?_) (fun c20 => absurd c20 (by decide))
          refine lv_aload_n hx hb dX9_goes_35 rfl (lv_at hl 0 rfl) ?_
          refine lv_aload_n hx hb dX9_goes_36 rfl (lv_at hl 1 rfl) ?_
          refine va_get (ci := 9) (v := .ref (A 7)) (C := RX9) (T := TX9) (N := 12) hx hb hts (fun w h => uc_in w (inX9 w h)) hown hK hH.1 0 (cwc0 C A u) rfl 5 (by decide) (hts _ (uc_in _ q_f388)) (fun _ h9 => h9) rfl dX9_goes_37 ?_
          refine va_get (ci := 5) (v := .ref (A 38)) (C := RX5) (T := TX5) (N := 4) hx hb hts (fun w h => uc_in w (inX5 w h)) hown hK hH.1 7 (cwc7 C A u) rfl 3 (by decide) (hts _ (uc_in _ q_f175)) (fun _ h9 => h9) rfl dX9_goes_40 ?_
          refine lv_iload_n hx hb dX9_goes_43 rfl (lv_at hl 3 rfl) ?_
          refine va_iald hx hb hK hH.1 38 1 (cwc38 C A u) rfl (i_ix ha1 (by omega) (by omega)) dX9_goes_44 ?_
          refine p_any (fun z21 => ?_)
          refine csS (n := 2) (As := [.ref (A 8), .int z21]) (rest := []) ⟨hx, hb, hml, hown, hts⟩ uc_in (kX0_isWay_0 l D C A u hI z21 z21.toInt rfl) q_m918 q_s919 q_i7 q_c920 hvX0_isWay ⟨(Nat.le_of_ble_eq_true rfl), (Nat.le_of_ble_eq_true rfl)⟩ ⟨(Nat.le_of_ble_eq_true rfl), (Nat.le_of_ble_eq_true rfl)⟩ hK hH.1 rfl hl.1 rfl (Nat.le_of_ble_eq_true rfl) dX9_goes_45 (fun r22 p23 => ?_)
          have p23 : 0 ≤ r22.toInt ∧ r22.toInt ≤ 1 := p23
          refine lv_if_ne (tgt := 54) hx hb dX9_goes_48 (by decide) (fun c24 => ?_) (fun c24 => ?_)
          · have c24 := cNE (x := r22) (y := 0) (X := r22.toInt) (Y := 0) rfl (by decide) c24
            refine lv_aload_n hx hb dX9_goes_54 rfl (lv_at hl 1 rfl) ?_
            refine va_get (ci := 9) (v := .ref (A 13)) (C := RX9) (T := TX9) (N := 12) hx hb hts (fun w h => uc_in w (inX9 w h)) hown hK hH.1 0 (cwc0 C A u) rfl 8 (by decide) (hts _ (uc_in _ q_f391)) (fun _ h9 => h9) rfl dX9_goes_55 ?_
            refine lv_aload_n hx hb dX9_goes_58 rfl (lv_at hl 1 rfl) ?_
            refine va_get (ci := 9) (v := .ref (A 2)) (C := RX9) (T := TX9) (N := 12) hx hb hts (fun w h => uc_in w (inX9 w h)) hown hK hH.1 0 (cwc0 C A u) rfl 1 (by decide) (hts _ (uc_in _ q_f384)) (fun _ h9 => h9) rfl dX9_goes_59 ?_
            refine lv_aload_n hx hb dX9_goes_62 rfl (lv_at hl 1 rfl) ?_
            refine va_get (ci := 9) (v := .ref (A 7)) (C := RX9) (T := TX9) (N := 12) hx hb hts (fun w h => uc_in w (inX9 w h)) hown hK hH.1 0 (cwc0 C A u) rfl 5 (by decide) (hts _ (uc_in _ q_f388)) (fun _ h9 => h9) rfl dX9_goes_63 ?_
            refine va_get (ci := 5) (v := .ref (A 19)) (C := RX5) (T := TX5) (N := 4) hx hb hts (fun w h => uc_in w (inX5 w h)) hown hK hH.1 7 (cwc7 C A u) rfl 2 (by decide) (hts _ (uc_in _ q_f171)) (fun _ h9 => h9) rfl dX9_goes_66 ?_
            refine lv_iload_n hx hb dX9_goes_69 rfl (lv_at hl 3 rfl) ?_
            refine r_aald hx hb hK hH.1 19 6 rfl (cwc19 C A u) rfl (i_ix ha1 (by omega) (by omega)) dX9_goes_70 ?_
            obtain ⟨k25, hk25, ek25⟩ : ∃ k : Nat, (k : Int) = 32 + A1 ∧ k = 32 + Int32.toNatClampNeg a1 := ⟨_, by have q9 := i_cl (x := a1) (X := A1) ha1 (by omega); omega, rfl⟩
            refine pv_v (v := .ref (A (52 + k25))) (by rw [ek25]; rfl) ?_
            refine cvU (n := 2) (As := [.ref (A 2), .ref (A (52 + k25))]) (rest := []) ⟨hx, hb, hml, hown, hts⟩ uc_in (kX0_begin_0 l D C A u hI k25 (by omega) _) q_m879 q_n880 q_e881 q_i7 q_c882 hvX0_begin ⟨(Nat.le_of_ble_eq_true rfl), (Nat.le_of_ble_eq_true rfl)⟩ ⟨(Nat.le_of_ble_eq_true rfl), (Nat.le_of_ble_eq_true rfl)⟩ hK hH (fun q h => Or.inr h) Bl0 (fun _ _ _ => trivial) 0 13 rfl (cwc13 C A u) rfl hl.1 rfl (Nat.le_of_ble_eq_true rfl) dX9_goes_71 (fun u26 H locs p28 hH => ?_)
            obtain ⟨hI, hUu26, p28⟩ := p28
            refine lv_aload_n hx hb dX9_goes_74 rfl (lv_at hl 1 rfl) ?_
            refine va_get (ci := 9) (v := .ref (A 13)) (C := RX9) (T := TX9) (N := 12) hx hb hts (fun w h => uc_in w (inX9 w h)) hown hK hH.1 0 (cwc0 C A u26) rfl 8 (by decide) (hts _ (uc_in _ q_f391)) (fun _ h9 => h9) rfl dX9_goes_75 ?_
            refine lv_aload_n hx hb dX9_goes_78 rfl (lv_at hl 1 rfl) ?_
            refine va_get (ci := 9) (v := .ref (A 2)) (C := RX9) (T := TX9) (N := 12) hx hb hts (fun w h => uc_in w (inX9 w h)) hown hK hH.1 0 (cwc0 C A u26) rfl 1 (by decide) (hts _ (uc_in _ q_f384)) (fun _ h9 => h9) rfl dX9_goes_79 ?_
            refine va_get (ci := 7) (v := .int (gi u26 10)) (C := RX7) (T := TX7) (N := 16) hx hb hts (fun w h => uc_in w (inX7 w h)) hown hK hH.1 2 (cwc2 C A u26) rfl 2 (by decide) (hts _ (uc_in _ q_f77)) (fun _ h9 => h9) rfl dX9_goes_82 ?_
            refine lv_aload_n hx hb dX9_goes_85 rfl (lv_at hl 0 rfl) ?_
            refine cvS (n := 2) (As := [.int (gi u26 10), .ref (A 8)]) (rest := []) ⟨hx, hb, hml, hown, hts⟩ uc_in (kX0_walk_0 l D C A u26 hI (gi u26 10) (((gi u26 10)).toInt) rfl) q_m922 q_n923 q_e924 q_i7 q_c925 hvX0_walk ⟨(Nat.le_of_ble_eq_true rfl), (Nat.le_of_ble_eq_true rfl)⟩ ⟨(Nat.le_of_ble_eq_true rfl), (Nat.le_of_ble_eq_true rfl)⟩ hK hH.1 0 13 rfl (cwc13 C A u26) rfl hl.1 rfl (Nat.le_of_ble_eq_true rfl) dX9_goes_86 (fun r29 p30 => ?_)
            exact hret _ _ _ _ r29 _ dX9_goes_89 rfl ⟨hI, (Un.tr Un.rf hUu26 rfl rfl rfl), trivial⟩ hH
          · have c24 := cEQ (x := r22) (y := 0) (X := r22.toInt) (Y := 0) rfl (by decide) c24
            refine lv_bipush (v := (-2)) hx hb dX9_goes_51 (by decide) ?_
            exact hret _ _ _ _ ((-2) : Int32) _ dX9_goes_53 rfl ⟨hI, Un.rf, trivial⟩ hH
        · subst e9
          refine lv_if_ne (tgt := 35) hx hb dX9_goes_29 (by decide) (fun c31 => absurd c31 (by decide)) (fun c31 => ?_)
          refine lv_bipush (v := (-6)) hx hb dX9_goes_32 (by decide) ?_
          exact hret _ _ _ _ ((-6) : Int32) _ dX9_goes_34 rfl ⟨hI, Un.rf, trivial⟩ hH
      · have e8 : a0 = 1 := i_lit ha0 (by rw [e9]; decide)
        subst e8
        have q8 : (1 : Int32).toInt = 1 := by decide
        refine r_aald hx hb hK hH.1 18 5 rfl (cwc18 C A u) rfl (i_ix (X := 1) (by decide) (by decide) (by decide)) dX9_goes_23 ?_
        refine pv_v (v := .ref (A 9)) rfl ?_
        refine lv_astore_n (lv' := [(3, .ref (A 9)), (0, .ref (A 0)), (1, .int 1), (2, .int a1)]) hx hb dX9_goes_24 rfl hl (by decide) rfl (fun ls hl => ?_)
        refine lv_aload_n hx hb dX9_goes_25 rfl (lv_at hl 0 rfl) ?_
        refine cvS (n := 0) (As := []) (rest := []) ⟨hx, hb, hml, hown, hts⟩ uc_in (kX3_isThere_1 l D C A u hI ) q_m914 q_n915 q_e916 q_i5 q_c917 hvX3_isThere ⟨(Nat.le_of_ble_eq_true rfl), (Nat.le_of_ble_eq_true rfl)⟩ ⟨(Nat.le_of_ble_eq_true rfl), (Nat.le_of_ble_eq_true rfl)⟩ hK hH.1 3 9 rfl (cwc9 C A u) rfl hl.1 rfl (Nat.le_of_ble_eq_true rfl) dX9_goes_26 (fun r32 p33 => ?_)
        rcases p33 with ⟨e9, f34⟩ | ⟨e9, fn36⟩
        · subst e9
          have b37 := hI.b52
          refine lv_if_ne (tgt := 35) hx hb dX9_goes_29 (by decide) (fun c38 => ?_) (fun c38 => absurd c38 (by decide))
          refine lv_aload_n hx hb dX9_goes_35 rfl (lv_at hl 0 rfl) ?_
          refine lv_aload_n hx hb dX9_goes_36 rfl (lv_at hl 1 rfl) ?_
          refine va_get (ci := 9) (v := .ref (A 7)) (C := RX9) (T := TX9) (N := 12) hx hb hts (fun w h => uc_in w (inX9 w h)) hown hK hH.1 0 (cwc0 C A u) rfl 5 (by decide) (hts _ (uc_in _ q_f388)) (fun _ h9 => h9) rfl dX9_goes_37 ?_
          refine va_get (ci := 5) (v := .ref (A 38)) (C := RX5) (T := TX5) (N := 4) hx hb hts (fun w h => uc_in w (inX5 w h)) hown hK hH.1 7 (cwc7 C A u) rfl 3 (by decide) (hts _ (uc_in _ q_f175)) (fun _ h9 => h9) rfl dX9_goes_40 ?_
          refine lv_iload_n hx hb dX9_goes_43 rfl (lv_at hl 3 rfl) ?_
          refine va_iald hx hb hK hH.1 38 1 (cwc38 C A u) rfl (i_ix ha1 (by omega) (by omega)) dX9_goes_44 ?_
          refine p_any (fun z39 => ?_)
          refine csS (n := 2) (As := [.ref (A 9), .int z39]) (rest := []) ⟨hx, hb, hml, hown, hts⟩ uc_in (kX0_isWay_1 l D C A u hI z39 z39.toInt rfl) q_m918 q_s919 q_i7 q_c920 hvX0_isWay ⟨(Nat.le_of_ble_eq_true rfl), (Nat.le_of_ble_eq_true rfl)⟩ ⟨(Nat.le_of_ble_eq_true rfl), (Nat.le_of_ble_eq_true rfl)⟩ hK hH.1 rfl hl.1 rfl (Nat.le_of_ble_eq_true rfl) dX9_goes_45 (fun r40 p41 => ?_)
          have p41 : 0 ≤ r40.toInt ∧ r40.toInt ≤ 1 := p41
          refine lv_if_ne (tgt := 54) hx hb dX9_goes_48 (by decide) (fun c42 => ?_) (fun c42 => ?_)
          · have c42 := cNE (x := r40) (y := 0) (X := r40.toInt) (Y := 0) rfl (by decide) c42
            refine lv_aload_n hx hb dX9_goes_54 rfl (lv_at hl 1 rfl) ?_
            refine va_get (ci := 9) (v := .ref (A 13)) (C := RX9) (T := TX9) (N := 12) hx hb hts (fun w h => uc_in w (inX9 w h)) hown hK hH.1 0 (cwc0 C A u) rfl 8 (by decide) (hts _ (uc_in _ q_f391)) (fun _ h9 => h9) rfl dX9_goes_55 ?_
            refine lv_aload_n hx hb dX9_goes_58 rfl (lv_at hl 1 rfl) ?_
            refine va_get (ci := 9) (v := .ref (A 2)) (C := RX9) (T := TX9) (N := 12) hx hb hts (fun w h => uc_in w (inX9 w h)) hown hK hH.1 0 (cwc0 C A u) rfl 1 (by decide) (hts _ (uc_in _ q_f384)) (fun _ h9 => h9) rfl dX9_goes_59 ?_
            refine lv_aload_n hx hb dX9_goes_62 rfl (lv_at hl 1 rfl) ?_
            refine va_get (ci := 9) (v := .ref (A 7)) (C := RX9) (T := TX9) (N := 12) hx hb hts (fun w h => uc_in w (inX9 w h)) hown hK hH.1 0 (cwc0 C A u) rfl 5 (by decide) (hts _ (uc_in _ q_f388)) (fun _ h9 => h9) rfl dX9_goes_63 ?_
            refine va_get (ci := 5) (v := .ref (A 19)) (C := RX5) (T := TX5) (N := 4) hx hb hts (fun w h => uc_in w (inX5 w h)) hown hK hH.1 7 (cwc7 C A u) rfl 2 (by decide) (hts _ (uc_in _ q_f171)) (fun _ h9 => h9) rfl dX9_goes_66 ?_
            refine lv_iload_n hx hb dX9_goes_69 rfl (lv_at hl 3 rfl) ?_
            refine r_aald hx hb hK hH.1 19 6 rfl (cwc19 C A u) rfl (i_ix ha1 (by omega) (by omega)) dX9_goes_70 ?_
            obtain ⟨k43, hk43, ek43⟩ : ∃ k : Nat, (k : Int) = 32 + A1 ∧ k = 32 + Int32.toNatClampNeg a1 := ⟨_, by have q9 := i_cl (x := a1) (X := A1) ha1 (by omega); omega, rfl⟩
            refine pv_v (v := .ref (A (52 + k43))) (by rw [ek43]; rfl) ?_
            refine cvU (n := 2) (As := [.ref (A 2), .ref (A (52 + k43))]) (rest := []) ⟨hx, hb, hml, hown, hts⟩ uc_in (kX0_begin_0 l D C A u hI k43 (by omega) _) q_m879 q_n880 q_e881 q_i7 q_c882 hvX0_begin ⟨(Nat.le_of_ble_eq_true rfl), (Nat.le_of_ble_eq_true rfl)⟩ ⟨(Nat.le_of_ble_eq_true rfl), (Nat.le_of_ble_eq_true rfl)⟩ hK hH (fun q h => Or.inr h) Bl0 (fun _ _ _ => trivial) 0 13 rfl (cwc13 C A u) rfl hl.1 rfl (Nat.le_of_ble_eq_true rfl) dX9_goes_71 (fun u44 H locs p46 hH => ?_)
            obtain ⟨hI, hUu44, p46⟩ := p46
            refine lv_aload_n hx hb dX9_goes_74 rfl (lv_at hl 1 rfl) ?_
            refine va_get (ci := 9) (v := .ref (A 13)) (C := RX9) (T := TX9) (N := 12) hx hb hts (fun w h => uc_in w (inX9 w h)) hown hK hH.1 0 (cwc0 C A u44) rfl 8 (by decide) (hts _ (uc_in _ q_f391)) (fun _ h9 => h9) rfl dX9_goes_75 ?_
            refine lv_aload_n hx hb dX9_goes_78 rfl (lv_at hl 1 rfl) ?_
            refine va_get (ci := 9) (v := .ref (A 2)) (C := RX9) (T := TX9) (N := 12) hx hb hts (fun w h => uc_in w (inX9 w h)) hown hK hH.1 0 (cwc0 C A u44) rfl 1 (by decide) (hts _ (uc_in _ q_f384)) (fun _ h9 => h9) rfl dX9_goes_79 ?_
            refine va_get (ci := 7) (v := .int (gi u44 10)) (C := RX7) (T := TX7) (N := 16) hx hb hts (fun w h => uc_in w (inX7 w h)) hown hK hH.1 2 (cwc2 C A u44) rfl 2 (by decide) (hts _ (uc_in _ q_f77)) (fun _ h9 => h9) rfl dX9_goes_82 ?_
            refine lv_aload_n hx hb dX9_goes_85 rfl (lv_at hl 0 rfl) ?_
            refine cvS (n := 2) (As := [.int (gi u44 10), .ref (A 9)]) (rest := []) ⟨hx, hb, hml, hown, hts⟩ uc_in (kX0_walk_1 l D C A u44 hI (gi u44 10) (((gi u44 10)).toInt) rfl) q_m922 q_n923 q_e924 q_i7 q_c925 hvX0_walk ⟨(Nat.le_of_ble_eq_true rfl), (Nat.le_of_ble_eq_true rfl)⟩ ⟨(Nat.le_of_ble_eq_true rfl), (Nat.le_of_ble_eq_true rfl)⟩ hK hH.1 0 13 rfl (cwc13 C A u44) rfl hl.1 rfl (Nat.le_of_ble_eq_true rfl) dX9_goes_86 (fun r47 p48 => ?_)
            exact hret _ _ _ _ r47 _ dX9_goes_89 rfl ⟨hI, (Un.tr Un.rf hUu44 rfl rfl rfl), trivial⟩ hH
          · have c42 := cEQ (x := r40) (y := 0) (X := r40.toInt) (Y := 0) rfl (by decide) c42
            refine lv_bipush (v := (-2)) hx hb dX9_goes_51 (by decide) ?_
            exact hret _ _ _ _ ((-2) : Int32) _ dX9_goes_53 rfl ⟨hI, Un.rf, trivial⟩ hH
        · subst e9
          refine lv_if_ne (tgt := 35) hx hb dX9_goes_29 (by decide) (fun c49 => absurd c49 (by decide)) (fun c49 => ?_)
          refine lv_bipush (v := (-6)) hx hb dX9_goes_32 (by decide) ?_
          exact hret _ _ _ _ ((-6) : Int32) _ dX9_goes_34 rfl ⟨hI, Un.rf, trivial⟩ hH
      · have e8 : a0 = 2 := i_lit ha0 (by rw [e9]; decide)
        subst e8
        have q8 : (2 : Int32).toInt = 2 := by decide
        refine r_aald hx hb hK hH.1 18 5 rfl (cwc18 C A u) rfl (i_ix (X := 2) (by decide) (by decide) (by decide)) dX9_goes_23 ?_
        refine pv_v (v := .ref (A 10)) rfl ?_
        refine lv_astore_n (lv' := [(3, .ref (A 10)), (0, .ref (A 0)), (1, .int 2), (2, .int a1)]) hx hb dX9_goes_24 rfl hl (by decide) rfl (fun ls hl => ?_)
        refine lv_aload_n hx hb dX9_goes_25 rfl (lv_at hl 0 rfl) ?_
        refine cvS (n := 0) (As := []) (rest := []) ⟨hx, hb, hml, hown, hts⟩ uc_in (kX3_isThere_2 l D C A u hI ) q_m914 q_n915 q_e916 q_i5 q_c917 hvX3_isThere ⟨(Nat.le_of_ble_eq_true rfl), (Nat.le_of_ble_eq_true rfl)⟩ ⟨(Nat.le_of_ble_eq_true rfl), (Nat.le_of_ble_eq_true rfl)⟩ hK hH.1 3 10 rfl (cwc10 C A u) rfl hl.1 rfl (Nat.le_of_ble_eq_true rfl) dX9_goes_26 (fun r50 p51 => ?_)
        rcases p51 with ⟨e9, f52⟩ | ⟨e9, fn54⟩
        · subst e9
          have b55 := hI.b54
          refine lv_if_ne (tgt := 35) hx hb dX9_goes_29 (by decide) (fun c56 => ?_) (fun c56 => absurd c56 (by decide))
          refine lv_aload_n hx hb dX9_goes_35 rfl (lv_at hl 0 rfl) ?_
          refine lv_aload_n hx hb dX9_goes_36 rfl (lv_at hl 1 rfl) ?_
          refine va_get (ci := 9) (v := .ref (A 7)) (C := RX9) (T := TX9) (N := 12) hx hb hts (fun w h => uc_in w (inX9 w h)) hown hK hH.1 0 (cwc0 C A u) rfl 5 (by decide) (hts _ (uc_in _ q_f388)) (fun _ h9 => h9) rfl dX9_goes_37 ?_
          refine va_get (ci := 5) (v := .ref (A 38)) (C := RX5) (T := TX5) (N := 4) hx hb hts (fun w h => uc_in w (inX5 w h)) hown hK hH.1 7 (cwc7 C A u) rfl 3 (by decide) (hts _ (uc_in _ q_f175)) (fun _ h9 => h9) rfl dX9_goes_40 ?_
          refine lv_iload_n hx hb dX9_goes_43 rfl (lv_at hl 3 rfl) ?_
          refine va_iald hx hb hK hH.1 38 1 (cwc38 C A u) rfl (i_ix ha1 (by omega) (by omega)) dX9_goes_44 ?_
          refine p_any (fun z57 => ?_)
          refine csS (n := 2) (As := [.ref (A 10), .int z57]) (rest := []) ⟨hx, hb, hml, hown, hts⟩ uc_in (kX0_isWay_2 l D C A u hI z57 z57.toInt rfl) q_m918 q_s919 q_i7 q_c920 hvX0_isWay ⟨(Nat.le_of_ble_eq_true rfl), (Nat.le_of_ble_eq_true rfl)⟩ ⟨(Nat.le_of_ble_eq_true rfl), (Nat.le_of_ble_eq_true rfl)⟩ hK hH.1 rfl hl.1 rfl (Nat.le_of_ble_eq_true rfl) dX9_goes_45 (fun r58 p59 => ?_)
          have p59 : 0 ≤ r58.toInt ∧ r58.toInt ≤ 1 := p59
          refine lv_if_ne (tgt := 54) hx hb dX9_goes_48 (by decide) (fun c60 => ?_) (fun c60 => ?_)
          · have c60 := cNE (x := r58) (y := 0) (X := r58.toInt) (Y := 0) rfl (by decide) c60
            refine lv_aload_n hx hb dX9_goes_54 rfl (lv_at hl 1 rfl) ?_
            refine va_get (ci := 9) (v := .ref (A 13)) (C := RX9) (T := TX9) (N := 12) hx hb hts (fun w h => uc_in w (inX9 w h)) hown hK hH.1 0 (cwc0 C A u) rfl 8 (by decide) (hts _ (uc_in _ q_f391)) (fun _ h9 => h9) rfl dX9_goes_55 ?_
            refine lv_aload_n hx hb dX9_goes_58 rfl (lv_at hl 1 rfl) ?_
            refine va_get (ci := 9) (v := .ref (A 2)) (C := RX9) (T := TX9) (N := 12) hx hb hts (fun w h => uc_in w (inX9 w h)) hown hK hH.1 0 (cwc0 C A u) rfl 1 (by decide) (hts _ (uc_in _ q_f384)) (fun _ h9 => h9) rfl dX9_goes_59 ?_
            refine lv_aload_n hx hb dX9_goes_62 rfl (lv_at hl 1 rfl) ?_
            refine va_get (ci := 9) (v := .ref (A 7)) (C := RX9) (T := TX9) (N := 12) hx hb hts (fun w h => uc_in w (inX9 w h)) hown hK hH.1 0 (cwc0 C A u) rfl 5 (by decide) (hts _ (uc_in _ q_f388)) (fun _ h9 => h9) rfl dX9_goes_63 ?_
            refine va_get (ci := 5) (v := .ref (A 19)) (C := RX5) (T := TX5) (N := 4) hx hb hts (fun w h => uc_in w (inX5 w h)) hown hK hH.1 7 (cwc7 C A u) rfl 2 (by decide) (hts _ (uc_in _ q_f171)) (fun _ h9 => h9) rfl dX9_goes_66 ?_
            refine lv_iload_n hx hb dX9_goes_69 rfl (lv_at hl 3 rfl) ?_
            refine r_aald hx hb hK hH.1 19 6 rfl (cwc19 C A u) rfl (i_ix ha1 (by omega) (by omega)) dX9_goes_70 ?_
            obtain ⟨k61, hk61, ek61⟩ : ∃ k : Nat, (k : Int) = 32 + A1 ∧ k = 32 + Int32.toNatClampNeg a1 := ⟨_, by have q9 := i_cl (x := a1) (X := A1) ha1 (by omega); omega, rfl⟩
            refine pv_v (v := .ref (A (52 + k61))) (by rw [ek61]; rfl) ?_
            refine cvU (n := 2) (As := [.ref (A 2), .ref (A (52 + k61))]) (rest := []) ⟨hx, hb, hml, hown, hts⟩ uc_in (kX0_begin_0 l D C A u hI k61 (by omega) _) q_m879 q_n880 q_e881 q_i7 q_c882 hvX0_begin ⟨(Nat.le_of_ble_eq_true rfl), (Nat.le_of_ble_eq_true rfl)⟩ ⟨(Nat.le_of_ble_eq_true rfl), (Nat.le_of_ble_eq_true rfl)⟩ hK hH (fun q h => Or.inr h) Bl0 (fun _ _ _ => trivial) 0 13 rfl (cwc13 C A u) rfl hl.1 rfl (Nat.le_of_ble_eq_true rfl) dX9_goes_71 (fun u62 H locs p64 hH => ?_)
            obtain ⟨hI, hUu62, p64⟩ := p64
            refine lv_aload_n hx hb dX9_goes_74 rfl (lv_at hl 1 rfl) ?_
            refine va_get (ci := 9) (v := .ref (A 13)) (C := RX9) (T := TX9) (N := 12) hx hb hts (fun w h => uc_in w (inX9 w h)) hown hK hH.1 0 (cwc0 C A u62) rfl 8 (by decide) (hts _ (uc_in _ q_f391)) (fun _ h9 => h9) rfl dX9_goes_75 ?_
            refine lv_aload_n hx hb dX9_goes_78 rfl (lv_at hl 1 rfl) ?_
            refine va_get (ci := 9) (v := .ref (A 2)) (C := RX9) (T := TX9) (N := 12) hx hb hts (fun w h => uc_in w (inX9 w h)) hown hK hH.1 0 (cwc0 C A u62) rfl 1 (by decide) (hts _ (uc_in _ q_f384)) (fun _ h9 => h9) rfl dX9_goes_79 ?_
            refine va_get (ci := 7) (v := .int (gi u62 10)) (C := RX7) (T := TX7) (N := 16) hx hb hts (fun w h => uc_in w (inX7 w h)) hown hK hH.1 2 (cwc2 C A u62) rfl 2 (by decide) (hts _ (uc_in _ q_f77)) (fun _ h9 => h9) rfl dX9_goes_82 ?_
            refine lv_aload_n hx hb dX9_goes_85 rfl (lv_at hl 0 rfl) ?_
            refine cvS (n := 2) (As := [.int (gi u62 10), .ref (A 10)]) (rest := []) ⟨hx, hb, hml, hown, hts⟩ uc_in (kX0_walk_2 l D C A u62 hI (gi u62 10) (((gi u62 10)).toInt) rfl) q_m922 q_n923 q_e924 q_i7 q_c925 hvX0_walk ⟨(Nat.le_of_ble_eq_true rfl), (Nat.le_of_ble_eq_true rfl)⟩ ⟨(Nat.le_of_ble_eq_true rfl), (Nat.le_of_ble_eq_true rfl)⟩ hK hH.1 0 13 rfl (cwc13 C A u62) rfl hl.1 rfl (Nat.le_of_ble_eq_true rfl) dX9_goes_86 (fun r65 p66 => ?_)
            exact hret _ _ _ _ r65 _ dX9_goes_89 rfl ⟨hI, (Un.tr Un.rf hUu62 rfl rfl rfl), trivial⟩ hH
          · have c60 := cEQ (x := r58) (y := 0) (X := r58.toInt) (Y := 0) rfl (by decide) c60
            refine lv_bipush (v := (-2)) hx hb dX9_goes_51 (by decide) ?_
            exact hret _ _ _ _ ((-2) : Int32) _ dX9_goes_53 rfl ⟨hI, Un.rf, trivial⟩ hH
        · subst e9
          refine lv_if_ne (tgt := 35) hx hb dX9_goes_29 (by decide) (fun c67 => absurd c67 (by decide)) (fun c67 => ?_)
          refine lv_bipush (v := (-6)) hx hb dX9_goes_32 (by decide) ?_
          exact hret _ _ _ _ ((-6) : Int32) _ dX9_goes_34 rfl ⟨hI, Un.rf, trivial⟩ hH
      · have e8 : a0 = 3 := i_lit ha0 (by rw [e9]; decide)
        subst e8
        have q8 : (3 : Int32).toInt = 3 := by decide
        refine r_aald hx hb hK hH.1 18 5 rfl (cwc18 C A u) rfl (i_ix (X := 3) (by decide) (by decide) (by decide)) dX9_goes_23 ?_
        refine pv_v (v := .ref (A 11)) rfl ?_
        refine lv_astore_n (lv' := [(3, .ref (A 11)), (0, .ref (A 0)), (1, .int 3), (2, .int a1)]) hx hb dX9_goes_24 rfl hl (by decide) rfl (fun ls hl => ?_)
        refine lv_aload_n hx hb dX9_goes_25 rfl (lv_at hl 0 rfl) ?_
        refine cvS (n := 0) (As := []) (rest := []) ⟨hx, hb, hml, hown, hts⟩ uc_in (kX3_isThere_3 l D C A u hI ) q_m914 q_n915 q_e916 q_i5 q_c917 hvX3_isThere ⟨(Nat.le_of_ble_eq_true rfl), (Nat.le_of_ble_eq_true rfl)⟩ ⟨(Nat.le_of_ble_eq_true rfl), (Nat.le_of_ble_eq_true rfl)⟩ hK hH.1 3 11 rfl (cwc11 C A u) rfl hl.1 rfl (Nat.le_of_ble_eq_true rfl) dX9_goes_26 (fun r68 p69 => ?_)
        rcases p69 with ⟨e9, f70⟩ | ⟨e9, fn72⟩
        · subst e9
          have b73 := hI.b56
          refine lv_if_ne (tgt := 35) hx hb dX9_goes_29 (by decide) (fun c74 => ?_) (fun c74 => absurd c74 (by decide))
          refine lv_aload_n hx hb dX9_goes_35 rfl (lv_at hl 0 rfl) ?_
          refine lv_aload_n hx hb dX9_goes_36 rfl (lv_at hl 1 rfl) ?_
          refine va_get (ci := 9) (v := .ref (A 7)) (C := RX9) (T := TX9) (N := 12) hx hb hts (fun w h => uc_in w (inX9 w h)) hown hK hH.1 0 (cwc0 C A u) rfl 5 (by decide) (hts _ (uc_in _ q_f388)) (fun _ h9 => h9) rfl dX9_goes_37 ?_
          refine va_get (ci := 5) (v := .ref (A 38)) (C := RX5) (T := TX5) (N := 4) hx hb hts (fun w h => uc_in w (inX5 w h)) hown hK hH.1 7 (cwc7 C A u) rfl 3 (by decide) (hts _ (uc_in _ q_f175)) (fun _ h9 => h9) rfl dX9_goes_40 ?_
          refine lv_iload_n hx hb dX9_goes_43 rfl (lv_at hl 3 rfl) ?_
          refine va_iald hx hb hK hH.1 38 1 (cwc38 C A u) rfl (i_ix ha1 (by omega) (by omega)) dX9_goes_44 ?_
          refine p_any (fun z75 => ?_)
          refine csS (n := 2) (As := [.ref (A 11), .int z75]) (rest := []) ⟨hx, hb, hml, hown, hts⟩ uc_in (kX0_isWay_3 l D C A u hI z75 z75.toInt rfl) q_m918 q_s919 q_i7 q_c920 hvX0_isWay ⟨(Nat.le_of_ble_eq_true rfl), (Nat.le_of_ble_eq_true rfl)⟩ ⟨(Nat.le_of_ble_eq_true rfl), (Nat.le_of_ble_eq_true rfl)⟩ hK hH.1 rfl hl.1 rfl (Nat.le_of_ble_eq_true rfl) dX9_goes_45 (fun r76 p77 => ?_)
          have p77 : 0 ≤ r76.toInt ∧ r76.toInt ≤ 1 := p77
          refine lv_if_ne (tgt := 54) hx hb dX9_goes_48 (by decide) (fun c78 => ?_) (fun c78 => ?_)
          · have c78 := cNE (x := r76) (y := 0) (X := r76.toInt) (Y := 0) rfl (by decide) c78
            refine lv_aload_n hx hb dX9_goes_54 rfl (lv_at hl 1 rfl) ?_
            refine va_get (ci := 9) (v := .ref (A 13)) (C := RX9) (T := TX9) (N := 12) hx hb hts (fun w h => uc_in w (inX9 w h)) hown hK hH.1 0 (cwc0 C A u) rfl 8 (by decide) (hts _ (uc_in _ q_f391)) (fun _ h9 => h9) rfl dX9_goes_55 ?_
            refine lv_aload_n hx hb dX9_goes_58 rfl (lv_at hl 1 rfl) ?_
            refine va_get (ci := 9) (v := .ref (A 2)) (C := RX9) (T := TX9) (N := 12) hx hb hts (fun w h => uc_in w (inX9 w h)) hown hK hH.1 0 (cwc0 C A u) rfl 1 (by decide) (hts _ (uc_in _ q_f384)) (fun _ h9 => h9) rfl dX9_goes_59 ?_
            refine lv_aload_n hx hb dX9_goes_62 rfl (lv_at hl 1 rfl) ?_
            refine va_get (ci := 9) (v := .ref (A 7)) (C := RX9) (T := TX9) (N := 12) hx hb hts (fun w h => uc_in w (inX9 w h)) hown hK hH.1 0 (cwc0 C A u) rfl 5 (by decide) (hts _ (uc_in _ q_f388)) (fun _ h9 => h9) rfl dX9_goes_63 ?_
            refine va_get (ci := 5) (v := .ref (A 19)) (C := RX5) (T := TX5) (N := 4) hx hb hts (fun w h => uc_in w (inX5 w h)) hown hK hH.1 7 (cwc7 C A u) rfl 2 (by decide) (hts _ (uc_in _ q_f171)) (fun _ h9 => h9) rfl dX9_goes_66 ?_
            refine lv_iload_n hx hb dX9_goes_69 rfl (lv_at hl 3 rfl) ?_
            refine r_aald hx hb hK hH.1 19 6 rfl (cwc19 C A u) rfl (i_ix ha1 (by omega) (by omega)) dX9_goes_70 ?_
            obtain ⟨k79, hk79, ek79⟩ : ∃ k : Nat, (k : Int) = 32 + A1 ∧ k = 32 + Int32.toNatClampNeg a1 := ⟨_, by have q9 := i_cl (x := a1) (X := A1) ha1 (by omega); omega, rfl⟩
            refine pv_v (v := .ref (A (52 + k79))) (by rw [ek79]; rfl) ?_
            refine cvU (n := 2) (As := [.ref (A 2), .ref (A (52 + k79))]) (rest := []) ⟨hx, hb, hml, hown, hts⟩ uc_in (kX0_begin_0 l D C A u hI k79 (by omega) _) q_m879 q_n880 q_e881 q_i7 q_c882 hvX0_begin ⟨(Nat.le_of_ble_eq_true rfl), (Nat.le_of_ble_eq_true rfl)⟩ ⟨(Nat.le_of_ble_eq_true rfl), (Nat.le_of_ble_eq_true rfl)⟩ hK hH (fun q h => Or.inr h) Bl0 (fun _ _ _ => trivial) 0 13 rfl (cwc13 C A u) rfl hl.1 rfl (Nat.le_of_ble_eq_true rfl) dX9_goes_71 (fun u80 H locs p82 hH => ?_)
            obtain ⟨hI, hUu80, p82⟩ := p82
            refine lv_aload_n hx hb dX9_goes_74 rfl (lv_at hl 1 rfl) ?_
            refine va_get (ci := 9) (v := .ref (A 13)) (C := RX9) (T := TX9) (N := 12) hx hb hts (fun w h => uc_in w (inX9 w h)) hown hK hH.1 0 (cwc0 C A u80) rfl 8 (by decide) (hts _ (uc_in _ q_f391)) (fun _ h9 => h9) rfl dX9_goes_75 ?_
            refine lv_aload_n hx hb dX9_goes_78 rfl (lv_at hl 1 rfl) ?_
            refine va_get (ci := 9) (v := .ref (A 2)) (C := RX9) (T := TX9) (N := 12) hx hb hts (fun w h => uc_in w (inX9 w h)) hown hK hH.1 0 (cwc0 C A u80) rfl 1 (by decide) (hts _ (uc_in _ q_f384)) (fun _ h9 => h9) rfl dX9_goes_79 ?_
            refine va_get (ci := 7) (v := .int (gi u80 10)) (C := RX7) (T := TX7) (N := 16) hx hb hts (fun w h => uc_in w (inX7 w h)) hown hK hH.1 2 (cwc2 C A u80) rfl 2 (by decide) (hts _ (uc_in _ q_f77)) (fun _ h9 => h9) rfl dX9_goes_82 ?_
            refine lv_aload_n hx hb dX9_goes_85 rfl (lv_at hl 0 rfl) ?_
            refine cvS (n := 2) (As := [.int (gi u80 10), .ref (A 11)]) (rest := []) ⟨hx, hb, hml, hown, hts⟩ uc_in (kX0_walk_3 l D C A u80 hI (gi u80 10) (((gi u80 10)).toInt) rfl) q_m922 q_n923 q_e924 q_i7 q_c925 hvX0_walk ⟨(Nat.le_of_ble_eq_true rfl), (Nat.le_of_ble_eq_true rfl)⟩ ⟨(Nat.le_of_ble_eq_true rfl), (Nat.le_of_ble_eq_true rfl)⟩ hK hH.1 0 13 rfl (cwc13 C A u80) rfl hl.1 rfl (Nat.le_of_ble_eq_true rfl) dX9_goes_86 (fun r83 p84 => ?_)
            exact hret _ _ _ _ r83 _ dX9_goes_89 rfl ⟨hI, (Un.tr Un.rf hUu80 rfl rfl rfl), trivial⟩ hH
          · have c78 := cEQ (x := r76) (y := 0) (X := r76.toInt) (Y := 0) rfl (by decide) c78
            refine lv_bipush (v := (-2)) hx hb dX9_goes_51 (by decide) ?_
            exact hret _ _ _ _ ((-2) : Int32) _ dX9_goes_53 rfl ⟨hI, Un.rf, trivial⟩ hH
        · subst e9
          refine lv_if_ne (tgt := 35) hx hb dX9_goes_29 (by decide) (fun c85 => absurd c85 (by decide)) (fun c85 => ?_)
          refine lv_bipush (v := (-6)) hx hb dX9_goes_32 (by decide) ?_
          exact hret _ _ _ _ ((-6) : Int32) _ dX9_goes_34 rfl ⟨hI, Un.rf, trivial⟩ hH
    · subst e9
      refine lv_if_ne (tgt := 18) hx hb dX9_goes_12 (by decide) (fun c86 => absurd c86 (by decide)) (fun c86 => ?_)
      refine lv_bipush (v := (-2)) hx hb dX9_goes_15 (by decide) ?_
      exact hret _ _ _ _ ((-2) : Int32) _ dX9_goes_17 rfl ⟨hI, Un.rf, trivial⟩ hH
  · subst e9
    refine lv_if_eq (tgt := 15) hx hb dX9_goes_5 (by decide) (fun c87 => ?_) (fun c87 => absurd c87 (by decide))
    refine lv_bipush (v := (-2)) hx hb dX9_goes_15 (by decide) ?_
    exact hret _ _ _ _ ((-2) : Int32) _ dX9_goes_17 rfl ⟨hI, Un.rf, trivial⟩ hH
