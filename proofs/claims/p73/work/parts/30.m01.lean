set_option maxHeartbeats 4000000 in
set_option maxRecDepth 100000 in
theorem kX10_isSeed_0 (l : Launch) (D : va_G) (C : Nat → ClassId) (A : Nat → Nat) (u : St) (hI : IM u) (a0 : Int32) (A0 : Int) (ha0 : a0.toInt = A0) : Met l yX10_isSeed (uc yX10_isSeed cX10_isSeed 1 (some .boolean)) (rmL 2 0 0) (va_Pc [.int a0] (PreR D (tyl C) (mw C A u))) (vp_Si (fun r => 0 ≤ r.toInt ∧ r.toInt ≤ 1)) 0 0 (fun _ => False) := by
  refine mS (by decide) (Nat.le_of_ble_eq_true rfl) ?_
  intro p e s m below meth c ls ar Q hx hb hml hown hts hK hP hl hret
  have hown : s.vm.findClass RX10 = some m.cls := hown
  have hl : lv_has ls 1 [(0, .int a0)] := hl
  refine lv_iload_n hx hb dX10_isSeed_0 rfl (lv_at hl 0 rfl) ?_
  refine lv_i2l (v := a0.toInt64) hx hb dX10_isSeed_1 rfl ?_
  refine lv_lconst (v := 0) hx hb dX10_isSeed_2 (by decide) ?_
  refine lv_ldc2 (v := 2000000000) hx hb hown (hts _ (uc_in _ q_k1852)) dX10_isSeed_3 ?_
  refine csS (n := 3) (As := [.long a0.toInt64, .long 0, .long 2000000000]) (rest := []) ⟨hx, hb, hml, hown, hts⟩ uc_in (kX10_in_0 l D C A u hI a0.toInt64 A0 (tt_i2l ha0) (0) 0 (by decide) (2000000000) 2000000000 (by decide)) q_m1324 q_s1325 q_i11 q_c1326 hvX10_in ⟨(Nat.le_of_ble_eq_true rfl), (Nat.le_of_ble_eq_true rfl)⟩ ⟨(Nat.le_of_ble_eq_true rfl), (Nat.le_of_ble_eq_true rfl)⟩ hK hP rfl hl.1 rfl (Nat.le_of_ble_eq_true rfl) dX10_isSeed_6 (fun r1 p2 => ?_)
  rcases p2 with ⟨e9, f3, f4⟩ | ⟨e9, fn5⟩
  · subst e9
    exact hret _ _ (1 : Int32) dX10_isSeed_9 rfl ⟨by decide, by decide⟩
  · subst e9
    exact hret _ _ (0 : Int32) dX10_isSeed_9 rfl ⟨by decide, by decide⟩
set_option maxHeartbeats 4000000 in
set_option maxRecDepth 100000 in
theorem kX10_draws_0 (l : Launch) (D : va_G) (C : Nat → ClassId) (A : Nat → Nat) (u : St) (hI : IM u) (a0 : Int64) (A0 : Int) (ha0 : a0.toInt = A0) (sz : Nat) : MetI l yX10_draws cX10_draws 8 (some .int) 4 [.ref (A 0), .long a0] D (tyl C) (mw C A) X0 u sz (fun r u' => IM u' ∧ Un [(24, 24), (25, 25)] [(12, 12), (13, 13)] [] u u' ∧ (True)) := by
  refine mI (by decide) (Nat.le_of_ble_eq_true rfl) ?_
  intro p e s m below meth c ls ar Q hx hb hml hown hts hK hH hX hl hret
  have hown : s.vm.findClass RX10 = some m.cls := hown
  have hl : lv_has ls 8 [(0, .ref (A 0)), (1, .long a0)] := hl
  refine lv_aload_n hx hb dX10_draws_0 rfl (lv_at hl 0 rfl) ?_
  refine cvU (n := 0) (As := []) (rest := []) ⟨hx, hb, hml, hown, hts⟩ uc_in (kX10_lays_0 l D C A u hI  _) q_m1481 q_n1483 q_p75 q_i11 q_c1484 hvX10_lays ⟨(Nat.le_of_ble_eq_true rfl), (Nat.le_of_ble_eq_true rfl)⟩ ⟨(Nat.le_of_ble_eq_true rfl), (Nat.le_of_ble_eq_true rfl)⟩ hK hH (fun q h => Or.inr h) Bl0 (fun _ _ _ => trivial) 10 0 rfl (mwc0 C A u) rfl hl.1 rfl (Nat.le_of_ble_eq_true rfl) dX10_draws_1 (fun u1 H locs p3 hH => ?_)
  obtain ⟨hI, hUu1, p3⟩ := p3
  refine lv_lload_n hx hb dX10_draws_4 rfl (lv_at hl 1 rfl) ?_
  refine lv_lstore_n (lv' := [(3, .long a0), (0, .ref (A 0)), (1, .long a0)]) hx hb dX10_draws_5 rfl hl (by decide) rfl (fun ls hl => ?_)
  refine lv_iconst (v := 0) hx hb dX10_draws_6 (by decide) ?_
  refine lv_istore (lv' := [(5, .int 0), (3, .long a0), (0, .ref (A 0)), (1, .long a0)]) hx hb dX10_draws_7 hl (by decide) rfl (fun ls hl => ?_)
  refine lv_iconst (v := 0) hx hb dX10_draws_9 (by decide) ?_
  refine lv_istore (lv' := [(6, .int 0), (5, .int 0), (3, .long a0), (0, .ref (A 0)), (1, .long a0)]) hx hb dX10_draws_10 hl (by decide) rfl (fun ls hl => ?_)
  have lp12_2081 : ∀ (n12 : Nat) (ls : Array Slot) (y2078d : Int32) (y2079d : Int32) (y2080d : Int64) (u2081 : St) (H : Heap) (locs : List Loc), 0 ≤ y2078d.toInt → y2078d.toInt ≤ 7 → 7 - y2078d.toInt < (n12 : Int) → Un [] [(12, 12)] [] u1 u2081 → IM u2081 → Hd D (mw C A) (va_A (mw C A u) s.heap.size) s.heap u2081 H locs → lv_has ls 8 [(6, .int y2078d), (5, .int y2079d), (3, .long y2080d), (0, .ref (A 0))] → W p l e (rmL 4 0 0) s m ar below meth c H locs 0 0 Q (F0 m 12 ls []) := by
    intro n12
    induction n12 with
    | zero => intro ls y2078d y2079d y2080d u2081 H locs ly2078d my2078d hmun12 hUu2081 hI hH hl; exfalso; omega
    | succ n12 ih12_2081 =>
      intro ls y2078d y2079d y2080d u2081 H locs ly2078d my2078d hmun12 hUu2081 hI hH hl
      refine lv_iload hx hb dX10_draws_12 (lv_at hl 0 rfl) ?_
      refine lv_aload_n hx hb dX10_draws_14 rfl (lv_at hl 3 rfl) ?_
      refine cvS (n := 0) (As := []) (rest := [.int y2078d]) ⟨hx, hb, hml, hown, hts⟩ uc_in (kX10_days_0 l D C A u2081 hI ) q_m1477 q_n1479 q_p74 q_i11 q_c1480 hvX10_days ⟨(Nat.le_of_ble_eq_true rfl), (Nat.le_of_ble_eq_true rfl)⟩ ⟨(Nat.le_of_ble_eq_true rfl), (Nat.le_of_ble_eq_true rfl)⟩ hK hH.1 10 0 rfl (mwc0 C A u2081) rfl hl.1 rfl (Nat.le_of_ble_eq_true rfl) dX10_draws_15 (fun r2083 p2084 => ?_)
      subst p2084
      have b2085 : 0 ≤ ((ga u2081 7 0)).toInt ∧ ((ga u2081 7 0)).toInt ≤ 7 := hI.has 0
      refine lv_icmp_ge (tgt := 147) hx hb dX10_draws_18 (by decide) (fun c2086 => ?_) (fun c2086 => ?_)
      · have c2086 := cLE (x := (ga u2081 7 0)) (y := y2078d) (X := ((ga u2081 7 0)).toInt) (Y := y2078d.toInt) rfl rfl c2086
        refine lv_iload hx hb dX10_draws_147 (lv_at hl 1 rfl) ?_
        exact hret _ _ _ _ y2079d _ dX10_draws_149 rfl ⟨hI, (Un.tr (Un.tr Un.rf hUu1 rfl rfl rfl) hUu2081 rfl rfl rfl), trivial⟩ hH
      · have c2086 := cNLE (x := (ga u2081 7 0)) (y := y2078d) (X := ((ga u2081 7 0)).toInt) (Y := y2078d.toInt) rfl rfl c2086
        refine lv_iconst (v := 0) hx hb dX10_draws_21 (by decide) ?_
        refine lv_istore (lv' := [(7, .int 0), (6, .int y2078d), (5, .int y2079d), (3, .long y2080d), (0, .ref (A 0))]) hx hb dX10_draws_22 hl (by decide) rfl (fun ls hl => ?_)
        have lp24_2312 : ∀ (n24 : Nat) (ls : Array Slot) (y2309d : Int32) (y2310d : Int32) (y2311d : Int64) (u2312 : St) (H : Heap) (locs : List Loc), 0 ≤ y2309d.toInt → y2309d.toInt ≤ 6 → 6 - y2309d.toInt < (n24 : Int) → Un [] [(12, 12)] [] u2081 u2312 → IM u2312 → Hd D (mw C A) (va_A (mw C A u) s.heap.size) s.heap u2312 H locs → lv_has ls 8 [(7, .int y2309d), (6, .int y2078d), (5, .int y2310d), (3, .long y2311d), (0, .ref (A 0))] → W p l e (rmL 4 0 0) s m ar below meth c H locs 0 0 Q (F0 m 24 ls []) := by
          intro n24
          induction n24 with
          | zero => intro ls y2309d y2310d y2311d u2312 H locs ly2309d my2309d hmun24 hUu2312 hI hH hl; exfalso; omega
          | succ n24 ih24_2312 =>
            intro ls y2309d y2310d y2311d u2312 H locs ly2309d my2309d hmun24 hUu2312 hI hH hl
            refine lv_iload hx hb dX10_draws_24 (lv_at hl 0 rfl) ?_
            refine lv_aload_n hx hb dX10_draws_26 rfl (lv_at hl 4 rfl) ?_
            refine cvS (n := 0) (As := []) (rest := [.int y2309d]) ⟨hx, hb, hml, hown, hts⟩ uc_in (kX10_clocks_0 l D C A u2312 hI ) q_m1464 q_n1466 q_p72 q_i11 q_c1467 hvX10_clocks ⟨(Nat.le_of_ble_eq_true rfl), (Nat.le_of_ble_eq_true rfl)⟩ ⟨(Nat.le_of_ble_eq_true rfl), (Nat.le_of_ble_eq_true rfl)⟩ hK hH.1 10 0 rfl (mwc0 C A u2312) rfl hl.1 rfl (Nat.le_of_ble_eq_true rfl) dX10_draws_27 (fun r2314 p2315 => ?_)
            subst p2315
            have b2316 : 0 ≤ ((ga u2312 7 3)).toInt ∧ ((ga u2312 7 3)).toInt ≤ 6 := hI.has 3
            refine lv_icmp_ge (tgt := 141) hx hb dX10_draws_30 (by decide) (fun c2317 => ?_) (fun c2317 => ?_)
            · have c2317 := cLE (x := (ga u2312 7 3)) (y := y2309d) (X := ((ga u2312 7 3)).toInt) (Y := y2309d.toInt) rfl rfl c2317
              obtain ⟨z2318, ez2318⟩ : ∃ z, z = y2078d + Int32.ofInt 1 := ⟨_, rfl⟩
              have hz2318 : z2318.toInt = y2078d.toInt + 1 := by rw [ez2318]; exact tt_add rfl (by decide) (by omega) (by omega)
              refine lv_iinc (v := z2318) (lv' := [(6, .int z2318), (7, .int y2309d), (5, .int y2310d), (3, .long y2311d), (0, .ref (A 0))]) hx hb dX10_draws_141 hl (k := 1) rfl ez2318.symm (by decide) rfl (fun ls hl => ?_)
              refine lv_goto (tgt := 12) hx hb dX10_draws_144 (by decide) ?_
              exact ih12_2081 ls z2318 y2310d y2311d u2312 _ _ (by have q9 := (show z2318.toInt = (y2078d.toInt + 1) from hz2318); omega) (by have q9 := (show z2318.toInt = (y2078d.toInt + 1) from hz2318); omega) (by have q9 := (show z2318.toInt = (y2078d.toInt + 1) from hz2318); omega) (Un.tr hUu2081 hUu2312 rfl rfl rfl) hI hH (lv_sub hl [0, 2, 3, 4] rfl)
            · have c2317 := cNLE (x := (ga u2312 7 3)) (y := y2309d) (X := ((ga u2312 7 3)).toInt) (Y := y2309d.toInt) rfl rfl c2317
              refine lv_aload_n hx hb dX10_draws_33 rfl (lv_at hl 4 rfl) ?_
              refine va_get (ci := 10) (v := .ref (A 13)) (C := RX10) (T := TX10) (N := 42) hx hb hts (fun w h => uc_in w (inX10 w h)) hown hK hH.1 0 (mwc0 C A u2312) rfl 23 (by decide) (hts _ (uc_in _ q_f1211)) (fun _ h9 => h9) rfl dX10_draws_34 ?_
              refine lv_bipush (v := 6) hx hb dX10_draws_37 (by decide) ?_
              refine lv_iload hx hb dX10_draws_39 (lv_at hl 1 rfl) ?_
              refine lv_imul hx hb dX10_draws_41 ?_
              refine p_nm (tt_mul (X := 6) (Y := y2078d.toInt) (by decide) rfl (by omega) (by omega)) (fun z2319 hz2319 => ?_)
              refine lv_iload hx hb dX10_draws_42 (lv_at hl 0 rfl) ?_
              refine lv_iadd hx hb dX10_draws_44 ?_
              refine p_nm (tt_add (X := (6 * y2078d.toInt)) (Y := y2309d.toInt) hz2319 rfl (by omega) (by omega)) (fun z2320 hz2320 => ?_)
              refine va_zald hx hb hK hH.1 13 3 (mwc13 C A u2312) rfl (i_ix hz2320 (by omega) (by omega)) dX10_draws_45 ?_
              refine p_any (fun z2321 => ?_)
              have j135_2347 : ∀ (ls : Array Slot) (y2342d : Int32) (y2343d : Int64) (u2347 : St) (H : Heap) (locs : List Loc), Un [] [(12, 12)] [] u2312 u2347 → IM u2347 → Hd D (mw C A) (va_A (mw C A u) s.heap.size) s.heap u2347 H locs → lv_has ls 8 [(7, .int y2309d), (6, .int y2078d), (5, .int y2342d), (3, .long y2343d), (0, .ref (A 0))] → W p l e (rmL 4 0 0) s m ar below meth c H locs 0 0 Q (F0 m 135 ls []) := by
                intro ls y2342d y2343d u2347 H locs hUu2347 hI hH hl
                obtain ⟨z2349, ez2349⟩ : ∃ z, z = y2309d + Int32.ofInt 1 := ⟨_, rfl⟩
                have hz2349 : z2349.toInt = y2309d.toInt + 1 := by rw [ez2349]; exact tt_add rfl (by decide) (by omega) (by omega)
                refine lv_iinc (v := z2349) (lv' := [(7, .int z2349), (6, .int y2078d), (5, .int y2342d), (3, .long y2343d), (0, .ref (A 0))]) hx hb dX10_draws_135 hl (k := 0) rfl ez2349.symm (by decide) rfl (fun ls hl => ?_)
                refine lv_goto (tgt := 24) hx hb dX10_draws_138 (by decide) ?_
                exact ih24_2312 ls z2349 y2342d y2343d u2347 _ _ (by have q9 := (show z2349.toInt = (y2309d.toInt + 1) from hz2349); omega) (by have q9 := (show z2349.toInt = (y2309d.toInt + 1) from hz2349); omega) (by have q9 := (show z2349.toInt = (y2309d.toInt + 1) from hz2349); omega) (Un.tr hUu2312 hUu2347 rfl rfl rfl) hI hH hl
              refine lv_if_eq (tgt := 135) hx hb dX10_draws_46 (by decide) (fun c2322 => ?_) (fun c2322 => ?_)
              · have c2322 := cEQ (x := z2321) (y := 0) (X := z2321.toInt) (Y := 0) rfl (by decide) c2322
                exact j135_2347 ls y2310d y2311d u2312 _ _ Un.rf hI hH hl
              · refine lv_aload_n hx hb dX10_draws_49 rfl (lv_at hl 4 rfl) ?_
                refine va_get (ci := 10) (v := .ref (A 12)) (C := RX10) (T := TX10) (N := 42) hx hb hts (fun w h => uc_in w (inX10 w h)) hown hK hH.1 0 (mwc0 C A u2312) rfl 22 (by decide) (hts _ (uc_in _ q_f1210)) (fun _ h9 => h9) rfl dX10_draws_50 ?_
                refine lv_bipush (v := 6) hx hb dX10_draws_53 (by decide) ?_
                refine lv_iload hx hb dX10_draws_55 (lv_at hl 1 rfl) ?_
                refine lv_imul hx hb dX10_draws_57 ?_
                refine p_nm (tt_mul (X := 6) (Y := y2078d.toInt) (by decide) rfl (by omega) (by omega)) (fun z2350 hz2350 => ?_)
                refine lv_iload hx hb dX10_draws_58 (lv_at hl 0 rfl) ?_
                refine lv_iadd hx hb dX10_draws_60 ?_
                refine p_nm (tt_add (X := (6 * y2078d.toInt)) (Y := y2309d.toInt) hz2350 rfl (by omega) (by omega)) (fun z2351 hz2351 => ?_)
                refine va_iald hx hb hK hH.1 12 1 (mwc12 C A u2312) rfl (i_ix hz2351 (by omega) (by omega)) dX10_draws_61 ?_
                refine p_any (fun z2352 => ?_)
                refine lv_sipush (v := 10000) hx hb dX10_draws_62 (by decide) ?_
                refine lv_icmp_ne (tgt := 71) hx hb dX10_draws_65 (by decide) (fun c2353 => ?_) (fun c2353 => ?_)
                · refine lv_ldc2 (v := 1103515245) hx hb hown (hts _ (uc_in _ q_k1857)) dX10_draws_71 ?_
                  refine lv_lload_n hx hb dX10_draws_74 rfl (lv_at hl 3 rfl) ?_
                  refine lv_lmul hx hb dX10_draws_75 ?_
                  refine p_anyl (fun z2354 => ?_)
                  refine lv_ldc2 (v := 12345) hx hb hown (hts _ (uc_in _ q_k1858)) dX10_draws_76 ?_
                  refine lv_ladd hx hb dX10_draws_79 ?_
                  refine p_anyl (fun z2355 => ?_)
                  refine lv_ldc2 (v := 2147483648) hx hb hown (hts _ (uc_in _ q_k1859)) dX10_draws_80 ?_
                  refine lv_lrem hx hb dX10_draws_83 (by decide) ?_
                  refine p_anyl (fun z2356 => ?_)
                  refine lv_lstore_n (lv' := [(3, .long z2356), (7, .int y2309d), (6, .int y2078d), (5, .int y2310d), (0, .ref (A 0))]) hx hb dX10_draws_84 rfl hl (by decide) rfl (fun ls hl => ?_)
                  refine lv_lload_n hx hb dX10_draws_85 rfl (lv_at hl 0 rfl) ?_
                  refine lv_ldc2 (v := 65536) hx hb hown (hts _ (uc_in _ q_k1860)) dX10_draws_86 ?_
                  refine lv_ldiv hx hb dX10_draws_89 (by decide) ?_
                  refine p_anyl (fun z2357 => ?_)
                  refine lv_ldc2 (v := 10) hx hb hown (hts _ (uc_in _ q_k1861)) dX10_draws_90 ?_
                  refine lv_lrem hx hb dX10_draws_93 (by decide) ?_
                  refine p_anyl (fun z2358 => ?_)
                  refine lv_aload_n hx hb dX10_draws_94 rfl (lv_at hl 4 rfl) ?_
                  refine va_get (ci := 10) (v := .ref (A 7)) (C := RX10) (T := TX10) (N := 42) hx hb hts (fun w h => uc_in w (inX10 w h)) hown hK hH.1 0 (mwc0 C A u2312) rfl 17 (by decide) (hts _ (uc_in _ q_f1205)) (fun _ h9 => h9) rfl dX10_draws_95 ?_
                  refine lv_iconst (v := 2) hx hb dX10_draws_98 (by decide) ?_
                  refine va_iald hx hb hK hH.1 7 1 (mwc7 C A u2312) rfl (i_ix (X := 2) (by decide) (by decide) (by decide)) dX10_draws_99 ?_
                  refine pv_i (v := (ga u2312 7 2)) rfl ?_
                  have b2359 : 0 ≤ ((ga u2312 7 2)).toInt ∧ ((ga u2312 7 2)).toInt ≤ 10 := hI.has 2
                  refine lv_i2l (v := (ga u2312 7 2).toInt64) hx hb dX10_draws_100 rfl ?_
                  refine W.lcmp hx hb dX10_draws_101 ?_
                  refine lv_if_lt (tgt := 108) hx hb dX10_draws_102 (by decide) (fun c2360 => ?_) (fun c2360 => ?_)
                  · have c2360 := dLT (X := z2358.toInt) (Y := ((ga u2312 7 2)).toInt) rfl (tt_i2l rfl) c2360
                    refine lv_aload_n hx hb dX10_draws_108 rfl (lv_at hl 4 rfl) ?_
                    refine va_get (ci := 10) (v := .ref (A 12)) (C := RX10) (T := TX10) (N := 42) hx hb hts (fun w h => uc_in w (inX10 w h)) hown hK hH.1 0 (mwc0 C A u2312) rfl 22 (by decide) (hts _ (uc_in _ q_f1210)) (fun _ h9 => h9) rfl dX10_draws_109 ?_
                    refine lv_bipush (v := 6) hx hb dX10_draws_112 (by decide) ?_
                    refine lv_iload hx hb dX10_draws_114 (lv_at hl 2 rfl) ?_
                    refine lv_imul hx hb dX10_draws_116 ?_
                    refine p_nm (tt_mul (X := 6) (Y := y2078d.toInt) (by decide) rfl (by omega) (by omega)) (fun z2361 hz2361 => ?_)
                    refine lv_iload hx hb dX10_draws_117 (lv_at hl 1 rfl) ?_
                    refine lv_iadd hx hb dX10_draws_119 ?_
                    refine p_nm (tt_add (X := (6 * y2078d.toInt)) (Y := y2309d.toInt) hz2361 rfl (by omega) (by omega)) (fun z2362 hz2362 => ?_)
                    refine lv_dup2_11 hx hb dX10_draws_120 rfl rfl ?_
                    refine va_iald hx hb hK hH.1 12 1 (mwc12 C A u2312) rfl (i_ix hz2362 (by omega) (by omega)) dX10_draws_121 ?_
                    refine p_any (fun z2363 => ?_)
                    refine lv_bipush (v := 30) hx hb dX10_draws_122 (by decide) ?_
                    refine lv_iadd hx hb dX10_draws_124 ?_
                    refine p_any (fun z2364 => ?_)
                    refine r_iast (j := 12) hx hb hK hH 12 1 (mwc12 C A u2312) rfl (i_ix hz2362 (by omega) (by omega)) (mwa12 C A u2312) dX10_draws_125 (fun u2365 eu2365 H locs hH => ?_)
                    have hI := hI.pa0 eu2365 (by decide) (by decide) (by decide)
                    refine lv_iload hx hb dX10_draws_126 (lv_at hl 3 rfl) ?_
                    refine lv_iconst (v := 1) hx hb dX10_draws_128 (by decide) ?_
                    refine lv_iload hx hb dX10_draws_129 (lv_at hl 2 rfl) ?_
                    refine lv_ishl hx hb dX10_draws_131 ?_
                    have gz2366 := tt_shl1 (y := y2078d) (Y := y2078d.toInt) rfl (by omega) (by omega)
                    refine p_bd (P := fun q => 1 ≤ q ∧ q ≤ 64) ⟨by omega, by omega⟩ (fun z2367 bz2367 => ?_)
                    have bz2367 : 1 ≤ z2367.toInt ∧ z2367.toInt ≤ 64 := bz2367
                    refine lv_ior hx hb dX10_draws_132 ?_
                    refine p_any (fun z2368 => ?_)
                    refine lv_istore (lv' := [(5, .int z2368), (3, .long z2356), (7, .int y2309d), (6, .int y2078d), (0, .ref (A 0))]) hx hb dX10_draws_133 hl (by decide) rfl (fun ls hl => ?_)
                    exact j135_2347 ls z2368 z2356 u2365 _ _ (Un.sa Un.rf rfl eu2365) hI hH (lv_sub hl [2, 3, 0, 1, 4] rfl)
                  · have c2360 := dNLT (X := z2358.toInt) (Y := ((ga u2312 7 2)).toInt) rfl (tt_i2l rfl) c2360
                    refine lv_goto (tgt := 135) hx hb dX10_draws_105 (by decide) ?_
                    exact j135_2347 ls y2310d z2356 u2312 _ _ Un.rf hI hH (lv_sub hl [1, 2, 3, 0, 4] rfl)
                · have c2353 := cEQ (x := z2352) (y := 10000) (X := z2352.toInt) (Y := 10000) rfl (by decide) c2353
                  refine lv_goto (tgt := 135) hx hb dX10_draws_68 (by decide) ?_
                  exact j135_2347 ls y2310d y2311d u2312 _ _ Un.rf hI hH hl
        exact lp24_2312 7 ls 0 y2079d y2080d u2081 _ _ (by decide) (by decide) (by have q9 : (0 : Int32).toInt = 0 := (by decide); omega) Un.rf hI hH hl
  exact lp12_2081 8 ls 0 0 a0 u1 _ _ (by decide) (by decide) (by have q9 : (0 : Int32).toInt = 0 := (by decide); omega) Un.rf hI hH (lv_sub hl [0, 1, 2, 3] rfl)
set_option maxHeartbeats 4000000 in
set_option maxRecDepth 100000 in
theorem kX10_drawn_0 (l : Launch) (D : va_G) (C : Nat → ClassId) (A : Nat → Nat) (u : St) (hI : IM u) (a0 : Int32) (A0 : Int) (ha0 : a0.toInt = A0) (a1 : Int32) (A1 : Int) (ha1 : a1.toInt = A1) (sz : Nat) : MetI l yX10_drawn cX10_drawn 4 (some .int) 7 [.ref (A 0), .int a0, .int a1] D (tyl C) (mw C A) X0 u sz (fun r u' => IM u' ∧ Un [(0, 0), (24, 24), (25, 25)] [(12, 12), (13, 13)] [] u u' ∧ (True)) := by
  refine mI (by decide) (Nat.le_of_ble_eq_true rfl) ?_
  intro p e s m below meth c ls ar Q hx hb hml hown hts hK hH hX hl hret
  have hown : s.vm.findClass RX10 = some m.cls := hown
  have hl : lv_has ls 4 [(0, .ref (A 0)), (1, .int a0), (2, .int a1)] := hl
  refine lv_aload_n hx hb dX10_drawn_0 rfl (lv_at hl 0 rfl) ?_
  refine lv_iconst (v := 0) hx hb dX10_drawn_1 (by decide) ?_
  refine r_put (j := 0) (ci := 10) (C := RX10) (T := TX10) (N := 42) hx hb hts (fun w h => uc_in w (inX10 w h)) tyX10 tyX10_ok nmX10 hown hK hH 0 (mwc0 C A u) rfl 0 (by decide) (hts _ (uc_in _ q_f1188)) (fun _ h9 => h9) rfl (by decide +kernel) (Nat.le_of_ble_eq_true rfl) (mws0 C A u _) dX10_drawn_2 (fun u1 eu1 H locs hH => ?_)
  have hI := hI.pi0 eu1 rfl
  refine lv_aload_n hx hb dX10_drawn_5 rfl (lv_at hl 0 rfl) ?_
  refine cvS (n := 0) (As := []) (rest := []) ⟨hx, hb, hml, hown, hts⟩ uc_in (kX10_isTown_0 l D C A u1 hI ) q_m1554 q_n1556 q_p84 q_i11 q_c1557 hvX10_isTown ⟨(Nat.le_of_ble_eq_true rfl), (Nat.le_of_ble_eq_true rfl)⟩ ⟨(Nat.le_of_ble_eq_true rfl), (Nat.le_of_ble_eq_true rfl)⟩ hK hH.1 10 0 rfl (mwc0 C A u1) rfl hl.1 rfl (Nat.le_of_ble_eq_true rfl) dX10_drawn_6 (fun r2 p3 => ?_)
  have p3 : 0 ≤ r2.toInt ∧ r2.toInt ≤ 1 := p3
  refine lv_if_eq (tgt := 26) hx hb dX10_drawn_9 (by decide) (fun c4 => ?_) (fun c4 => ?_)
  · have c4 := cEQ (x := r2) (y := 0) (X := r2.toInt) (Y := 0) rfl (by decide) c4
    refine lv_bipush (v := (-2)) hx hb dX10_drawn_26 (by decide) ?_
    exact hret _ _ _ _ ((-2) : Int32) _ dX10_drawn_28 rfl ⟨hI, (Un.si Un.rf rfl eu1), trivial⟩ hH
  · have c4 := cNE (x := r2) (y := 0) (X := r2.toInt) (Y := 0) rfl (by decide) c4
    refine lv_iload_n hx hb dX10_drawn_12 rfl (lv_at hl 1 rfl) ?_
    refine csS (n := 1) (As := [.int a0]) (rest := []) ⟨hx, hb, hml, hown, hts⟩ uc_in (kX10_isSeed_0 l D C A u1 hI a0 A0 ha0) q_m1849 q_s1850 q_i11 q_c1851 hvX10_isSeed ⟨(Nat.le_of_ble_eq_true rfl), (Nat.le_of_ble_eq_true rfl)⟩ ⟨(Nat.le_of_ble_eq_true rfl), (Nat.le_of_ble_eq_true rfl)⟩ hK hH.1 rfl hl.1 rfl (Nat.le_of_ble_eq_true rfl) dX10_drawn_13 (fun r5 p6 => ?_)
    have p6 : 0 ≤ r5.toInt ∧ r5.toInt ≤ 1 := p6
    refine lv_if_eq (tgt := 26) hx hb dX10_drawn_16 (by decide) (fun c7 => ?_) (fun c7 => ?_)
    · have c7 := cEQ (x := r5) (y := 0) (X := r5.toInt) (Y := 0) rfl (by decide) c7
      refine lv_bipush (v := (-2)) hx hb dX10_drawn_26 (by decide) ?_
      exact hret _ _ _ _ ((-2) : Int32) _ dX10_drawn_28 rfl ⟨hI, (Un.si Un.rf rfl eu1), trivial⟩ hH
    · have c7 := cNE (x := r5) (y := 0) (X := r5.toInt) (Y := 0) rfl (by decide) c7
      refine lv_iload_n hx hb dX10_drawn_19 rfl (lv_at hl 2 rfl) ?_
      refine csS (n := 1) (As := [.int a1]) (rest := []) ⟨hx, hb, hml, hown, hts⟩ uc_in (kX10_isHalf_0 l D C A u1 hI a1 A1 ha1) q_m1664 q_s1665 q_i11 q_c1666 hvX10_isHalf ⟨(Nat.le_of_ble_eq_true rfl), (Nat.le_of_ble_eq_true rfl)⟩ ⟨(Nat.le_of_ble_eq_true rfl), (Nat.le_of_ble_eq_true rfl)⟩ hK hH.1 rfl hl.1 rfl (Nat.le_of_ble_eq_true rfl) dX10_drawn_20 (fun r8 p9 => ?_)
      rcases p9 with ⟨e9, f10, f11⟩ | e9
      · subst e9
        refine lv_if_ne (tgt := 29) hx hb dX10_drawn_23 (by decide) (fun c12 => ?_) (fun c12 => absurd c12 (by decide))
        refine lv_aload_n hx hb dX10_drawn_29 rfl (lv_at hl 0 rfl) ?_
        refine lv_iload_n hx hb dX10_drawn_30 rfl (lv_at hl 1 rfl) ?_
        refine lv_i2l (v := a0.toInt64) hx hb dX10_drawn_31 rfl ?_
        refine cvI (n := 1) (As := [.long a0.toInt64]) (rest := []) ⟨hx, hb, hml, hown, hts⟩ uc_in (kX10_draws_0 l D C A u1 hI a0.toInt64 A0 (tt_i2l ha0) _) q_m1853 q_n1855 q_p110 q_i11 q_c1856 hvX10_draws ⟨(Nat.le_of_ble_eq_true rfl), (Nat.le_of_ble_eq_true rfl)⟩ ⟨(Nat.le_of_ble_eq_true rfl), (Nat.le_of_ble_eq_true rfl)⟩ hK hH (fun q h => Or.inr h) Bl0 (fun _ _ _ => trivial) 10 0 rfl (mwc0 C A u1) rfl hl.1 rfl (Nat.le_of_ble_eq_true rfl) dX10_drawn_32 (fun r14 u13 H locs p15 hH => ?_)
        obtain ⟨hI, hUu13, p15⟩ := p15
        refine lv_istore_n (lv' := [(3, .int r14), (0, .ref (A 0)), (1, .int a0), (2, .int a1)]) hx hb dX10_drawn_35 rfl hl (by decide) rfl (fun ls hl => ?_)
        refine lv_iload_n hx hb dX10_drawn_36 rfl (lv_at hl 3 rfl) ?_
        refine lv_if_ne (tgt := 47) hx hb dX10_drawn_37 (by decide) (fun c16 => ?_) (fun c16 => ?_)
        · have c16 := cNE (x := a1) (y := 0) (X := A1) (Y := 0) ha1 (by decide) c16
          refine lv_iload_n hx hb dX10_drawn_47 rfl (lv_at hl 0 rfl) ?_
          exact hret _ _ _ _ r14 _ dX10_drawn_48 rfl ⟨hI, (Un.tr (Un.si Un.rf rfl eu1) hUu13 rfl rfl rfl), trivial⟩ hH
        · have c16 := cEQ (x := a1) (y := 0) (X := A1) (Y := 0) ha1 (by decide) c16
          refine lv_aload_n hx hb dX10_drawn_40 rfl (lv_at hl 1 rfl) ?_
          refine cvS (n := 0) (As := []) (rest := []) ⟨hx, hb, hml, hown, hts⟩ uc_in (kX10_waitAll_0 l D C A u13 hI ) q_m1558 q_n1560 q_p85 q_i11 q_c1561 hvX10_waitAll ⟨(Nat.le_of_ble_eq_true rfl), (Nat.le_of_ble_eq_true rfl)⟩ ⟨(Nat.le_of_ble_eq_true rfl), (Nat.le_of_ble_eq_true rfl)⟩ hK hH.1 10 0 rfl (mwc0 C A u13) rfl hl.1 rfl (Nat.le_of_ble_eq_true rfl) dX10_drawn_41 (fun r17 p18 => ?_)
          refine lv_goto (tgt := 48) hx hb dX10_drawn_44 (by decide) ?_
          exact hret _ _ _ _ r17 _ dX10_drawn_48 rfl ⟨hI, (Un.tr (Un.si Un.rf rfl eu1) hUu13 rfl rfl rfl), trivial⟩ hH
      · subst e9
        refine lv_if_ne (tgt := 29) hx hb dX10_drawn_23 (by decide) (fun c19 => absurd c19 (by decide)) (fun c19 => ?_)
        refine lv_bipush (v := (-2)) hx hb dX10_drawn_26 (by decide) ?_
        exact hret _ _ _ _ ((-2) : Int32) _ dX10_drawn_28 rfl ⟨hI, (Un.si Un.rf rfl eu1), trivial⟩ hH
set_option maxHeartbeats 4000000 in
set_option maxRecDepth 100000 in
theorem kX10_end_0 (l : Launch) (D : va_G) (C : Nat → ClassId) (A : Nat → Nat) (u : St) (hI : IM u) (a0 : Int32) (A0 : Int) (ha0 : a0.toInt = A0) (sz : Nat) : MetI l yX10_end cX10_end 2 (some .int) 2 [.ref (A 0), .int a0] D (tyl C) (mw C A) X0 u sz (fun r u' => IM u' ∧ Un [(0, 0), (6, 6)] [] [] u u' ∧ ((-1) ≤ r.toInt ∧ r.toInt ≤ 800)) := by
  refine mI (by decide) (Nat.le_of_ble_eq_true rfl) ?_
  intro p e s m below meth c ls ar Q hx hb hml hown hts hK hH hX hl hret
  have hown : s.vm.findClass RX10 = some m.cls := hown
  have hl : lv_has ls 2 [(0, .ref (A 0)), (1, .int a0)] := hl
  refine lv_aload_n hx hb dX10_end_0 rfl (lv_at hl 0 rfl) ?_
  refine lv_iconst (v := 0) hx hb dX10_end_1 (by decide) ?_
  refine r_put (j := 0) (ci := 10) (C := RX10) (T := TX10) (N := 42) hx hb hts (fun w h => uc_in w (inX10 w h)) tyX10 tyX10_ok nmX10 hown hK hH 0 (mwc0 C A u) rfl 0 (by decide) (hts _ (uc_in _ q_f1188)) (fun _ h9 => h9) rfl (by decide +kernel) (Nat.le_of_ble_eq_true rfl) (mws0 C A u _) dX10_end_2 (fun u1 eu1 H locs hH => ?_)
  have hI := hI.pi0 eu1 rfl
  refine lv_iload_n hx hb dX10_end_5 rfl (lv_at hl 1 rfl) ?_
  refine lv_i2l (v := a0.toInt64) hx hb dX10_end_6 rfl ?_
  refine lv_lconst (v := 0) hx hb dX10_end_7 (by decide) ?_
  refine lv_aload_n hx hb dX10_end_8 rfl (lv_at hl 0 rfl) ?_
  refine va_get (ci := 10) (v := .int (gi u1 6)) (C := RX10) (T := TX10) (N := 42) hx hb hts (fun w h => uc_in w (inX10 w h)) hown hK hH.1 0 (mwc0 C A u1) rfl 6 (by decide) (hts _ (uc_in _ q_f1194)) (fun _ h9 => h9) rfl dX10_end_9 ?_
  have b2 := hI.b6
  refine lv_i2l (v := (gi u1 6).toInt64) hx hb dX10_end_12 rfl ?_
  refine csS (n := 3) (As := [.long a0.toInt64, .long 0, .long ((gi u1 6).toInt64)]) (rest := []) ⟨hx, hb, hml, hown, hts⟩ uc_in (kX10_in_0 l D C A u1 hI a0.toInt64 A0 (tt_i2l ha0) (0) 0 (by decide) ((gi u1 6).toInt64) (((gi u1 6)).toInt) (tt_i2l rfl)) q_m1324 q_s1325 q_i11 q_c1326 hvX10_in ⟨(Nat.le_of_ble_eq_true rfl), (Nat.le_of_ble_eq_true rfl)⟩ ⟨(Nat.le_of_ble_eq_true rfl), (Nat.le_of_ble_eq_true rfl)⟩ hK hH.1 rfl hl.1 rfl (Nat.le_of_ble_eq_true rfl) dX10_end_13 (fun r3 p4 => ?_)
  rcases p4 with ⟨e9, f5, f6⟩ | ⟨e9, fn7⟩
  · subst e9
    refine lv_if_ne (tgt := 21) hx hb dX10_end_16 (by decide) (fun c8 => ?_) (fun c8 => absurd c8 (by decide))
    refine lv_aload_n hx hb dX10_end_21 rfl (lv_at hl 0 rfl) ?_
    refine lv_iload_n hx hb dX10_end_22 rfl (lv_at hl 1 rfl) ?_
    refine r_put (j := 6) (ci := 10) (C := RX10) (T := TX10) (N := 42) hx hb hts (fun w h => uc_in w (inX10 w h)) tyX10 tyX10_ok nmX10 hown hK hH 0 (mwc0 C A u1) rfl 6 (by decide) (hts _ (uc_in _ q_f1194)) (fun _ h9 => h9) rfl (by decide +kernel) (Nat.le_of_ble_eq_true rfl) (mws6 C A u1 _) dX10_end_23 (fun u9 eu9 H locs hH => ?_)
    have hI := hI.s6 eu9 ha0 (by omega) (by omega)
    refine lv_iload_n hx hb dX10_end_26 rfl (lv_at hl 1 rfl) ?_
    exact hret _ _ _ _ a0 _ dX10_end_27 rfl ⟨hI, (Un.si (Un.si Un.rf rfl eu1) rfl eu9), ⟨by have q9 := (show a0.toInt = A0 from ha0); omega, by have q9 := (show a0.toInt = A0 from ha0); omega⟩⟩ hH
  · subst e9
    refine lv_if_ne (tgt := 21) hx hb dX10_end_16 (by decide) (fun c10 => absurd c10 (by decide)) (fun c10 => ?_)
    refine lv_iconst (v := (-1)) hx hb dX10_end_19 (by decide) ?_
    exact hret _ _ _ _ ((-1) : Int32) _ dX10_end_20 rfl ⟨hI, (Un.si Un.rf rfl eu1), ⟨by decide, by decide⟩⟩ hH
set_option maxHeartbeats 4000000 in
set_option maxRecDepth 100000 in
theorem kX10_acts_0 (l : Launch) (D : va_G) (C : Nat → ClassId) (A : Nat → Nat) (u : St) (hI : IM u) (a0 : Int32) (A0 : Int) (ha0 : a0.toInt = A0) (a1 : Int32) (A1 : Int) (ha1 : a1.toInt = A1) (a2 : Int32) (A2 : Int) (ha2 : a2.toInt = A2) (hl1 : 0 ≤ A1) (hm1 : A1 ≤ 5) (hl2 : 0 ≤ A2) (hm2 : A2 ≤ 6) (sz : Nat) : MetI l yX10_acts cX10_acts 4 (some .int) 4 [.ref (A 0), .int a0, .int a1, .int a2] D (tyl C) (mw C A) X0 u sz (fun r u' => IM u' ∧ Un [(24, 24), (25, 25)] [(7, 7), (10, 10), (12, 12), (13, 13)] [] u u' ∧ (True)) := by
  refine mI (by decide) (Nat.le_of_ble_eq_true rfl) ?_
  intro p e s m below meth c ls ar Q hx hb hml hown hts hK hH hX hl hret
  have hown : s.vm.findClass RX10 = some m.cls := hown
  have hl : lv_has ls 4 [(0, .ref (A 0)), (1, .int a0), (2, .int a1), (3, .int a2)] := hl
  refine lv_aload_n hx hb dX10_acts_0 rfl (lv_at hl 0 rfl) ?_
  refine va_get (ci := 10) (v := .ref (A 7)) (C := RX10) (T := TX10) (N := 42) hx hb hts (fun w h => uc_in w (inX10 w h)) hown hK hH.1 0 (mwc0 C A u) rfl 17 (by decide) (hts _ (uc_in _ q_f1205)) (fun _ h9 => h9) rfl dX10_acts_1 ?_
  refine lv_iconst (v := 5) hx hb dX10_acts_4 (by decide) ?_
  refine va_iald hx hb hK hH.1 7 1 (mwc7 C A u) rfl (i_ix (X := 5) (by decide) (by decide) (by decide)) dX10_acts_5 ?_
  refine pv_i (v := (ga u 7 5)) rfl ?_
  have b1 : 0 ≤ ((ga u 7 5)).toInt ∧ ((ga u 7 5)).toInt ≤ 40 := hI.has 5
  refine lv_bipush (v := 40) hx hb dX10_acts_6 (by decide) ?_
  refine lv_icmp_ne (tgt := 14) hx hb dX10_acts_8 (by decide) (fun c2 => ?_) (fun c2 => ?_)
  · have c2 := cNE (x := (ga u 7 5)) (y := 40) (X := ((ga u 7 5)).toInt) (Y := 40) rfl (by decide) c2
    refine lv_aload_n hx hb dX10_acts_14 rfl (lv_at hl 0 rfl) ?_
    refine cvU (n := 0) (As := []) (rest := []) ⟨hx, hb, hml, hown, hts⟩ uc_in (kX10_lays_0 l D C A u hI  _) q_m1481 q_n1483 q_p75 q_i11 q_c1484 hvX10_lays ⟨(Nat.le_of_ble_eq_true rfl), (Nat.le_of_ble_eq_true rfl)⟩ ⟨(Nat.le_of_ble_eq_true rfl), (Nat.le_of_ble_eq_true rfl)⟩ hK hH (fun q h => Or.inr h) Bl0 (fun _ _ _ => trivial) 10 0 rfl (mwc0 C A u) rfl hl.1 rfl (Nat.le_of_ble_eq_true rfl) dX10_acts_15 (fun u3 H locs p5 hH => ?_)
    obtain ⟨hI, hUu3, p5⟩ := p5
    refine lv_aload_n hx hb dX10_acts_18 rfl (lv_at hl 0 rfl) ?_
    refine va_get (ci := 10) (v := .ref (A 10)) (C := RX10) (T := TX10) (N := 42) hx hb hts (fun w h => uc_in w (inX10 w h)) hown hK hH.1 0 (mwc0 C A u3) rfl 20 (by decide) (hts _ (uc_in _ q_f1208)) (fun _ h9 => h9) rfl dX10_acts_19 ?_
    refine lv_iconst (v := 3) hx hb dX10_acts_22 (by decide) ?_
    refine lv_aload_n hx hb dX10_acts_23 rfl (lv_at hl 0 rfl) ?_
    refine va_get (ci := 10) (v := .ref (A 7)) (C := RX10) (T := TX10) (N := 42) hx hb hts (fun w h => uc_in w (inX10 w h)) hown hK hH.1 0 (mwc0 C A u3) rfl 17 (by decide) (hts _ (uc_in _ q_f1205)) (fun _ h9 => h9) rfl dX10_acts_24 ?_
    refine lv_iconst (v := 5) hx hb dX10_acts_27 (by decide) ?_
    refine va_iald hx hb hK hH.1 7 1 (mwc7 C A u3) rfl (i_ix (X := 5) (by decide) (by decide) (by decide)) dX10_acts_28 ?_
    refine pv_i (v := (ga u 7 5)) ((congrFun (hUu3.2.1 7 rfl) _).trans rfl) ?_
    refine lv_imul hx hb dX10_acts_29 ?_
    refine p_nm (tt_mul (X := 3) (Y := ((ga u 7 5)).toInt) (by decide) rfl (by omega) (by omega)) (fun z6 hz6 => ?_)
    refine lv_iload_n hx hb dX10_acts_30 rfl (lv_at hl 1 rfl) ?_
    refine r_iast (j := 10) hx hb hK hH 10 1 (mwc10 C A u3) rfl (i_ix hz6 (by omega) (by omega)) (mwa10 C A u3) dX10_acts_31 (fun u7 eu7 H locs hH => ?_)
    have hI := hI.pa0 eu7 (by decide) (by decide) (by decide)
    refine lv_aload_n hx hb dX10_acts_32 rfl (lv_at hl 0 rfl) ?_
    refine va_get (ci := 10) (v := .ref (A 10)) (C := RX10) (T := TX10) (N := 42) hx hb hts (fun w h => uc_in w (inX10 w h)) hown hK hH.1 0 (mwc0 C A u7) rfl 20 (by decide) (hts _ (uc_in _ q_f1208)) (fun _ h9 => h9) rfl dX10_acts_33 ?_
    refine lv_iconst (v := 3) hx hb dX10_acts_36 (by decide) ?_
    refine lv_aload_n hx hb dX10_acts_37 rfl (lv_at hl 0 rfl) ?_
    refine va_get (ci := 10) (v := .ref (A 7)) (C := RX10) (T := TX10) (N := 42) hx hb hts (fun w h => uc_in w (inX10 w h)) hown hK hH.1 0 (mwc0 C A u7) rfl 17 (by decide) (hts _ (uc_in _ q_f1205)) (fun _ h9 => h9) rfl dX10_acts_38 ?_
    refine lv_iconst (v := 5) hx hb dX10_acts_41 (by decide) ?_
    refine va_iald hx hb hK hH.1 7 1 (mwc7 C A u7) rfl (i_ix (X := 5) (by decide) (by decide) (by decide)) dX10_acts_42 ?_
    refine pv_i (v := (ga u 7 5)) ((congrFun (ga_ne eu7 (by decide)) _).trans ((congrFun (hUu3.2.1 7 rfl) _).trans rfl)) ?_
    refine lv_imul hx hb dX10_acts_43 ?_
    refine p_nm (tt_mul (X := 3) (Y := ((ga u 7 5)).toInt) (by decide) rfl (by omega) (by omega)) (fun z8 hz8 => ?_)
    refine lv_iconst (v := 1) hx hb dX10_acts_44 (by decide) ?_
    refine lv_iadd hx hb dX10_acts_45 ?_
    refine p_nm (tt_add (X := (3 * ((ga u 7 5)).toInt)) (Y := 1) hz8 (by decide) (by omega) (by omega)) (fun z9 hz9 => ?_)
    refine lv_iload_n hx hb dX10_acts_46 rfl (lv_at hl 2 rfl) ?_
    refine r_iast (j := 10) hx hb hK hH 10 1 (mwc10 C A u7) rfl (i_ix hz9 (by omega) (by omega)) (mwa10 C A u7) dX10_acts_47 (fun u10 eu10 H locs hH => ?_)
    have hI := hI.pa0 eu10 (by decide) (by decide) (by decide)
    refine lv_aload_n hx hb dX10_acts_48 rfl (lv_at hl 0 rfl) ?_
    refine va_get (ci := 10) (v := .ref (A 10)) (C := RX10) (T := TX10) (N := 42) hx hb hts (fun w h => uc_in w (inX10 w h)) hown hK hH.1 0 (mwc0 C A u10) rfl 20 (by decide) (hts _ (uc_in _ q_f1208)) (fun _ h9 => h9) rfl dX10_acts_49 ?_
    refine lv_iconst (v := 3) hx hb dX10_acts_52 (by decide) ?_
    refine lv_aload_n hx hb dX10_acts_53 rfl (lv_at hl 0 rfl) ?_
    refine va_get (ci := 10) (v := .ref (A 7)) (C := RX10) (T := TX10) (N := 42) hx hb hts (fun w h => uc_in w (inX10 w h)) hown hK hH.1 0 (mwc0 C A u10) rfl 17 (by decide) (hts _ (uc_in _ q_f1205)) (fun _ h9 => h9) rfl dX10_acts_54 ?_
    refine lv_iconst (v := 5) hx hb dX10_acts_57 (by decide) ?_
    refine va_iald hx hb hK hH.1 7 1 (mwc7 C A u10) rfl (i_ix (X := 5) (by decide) (by decide) (by decide)) dX10_acts_58 ?_
    refine pv_i (v := (ga u 7 5)) ((congrFun (ga_ne eu10 (by decide)) _).trans ((congrFun (ga_ne eu7 (by decide)) _).trans ((congrFun (hUu3.2.1 7 rfl) _).trans rfl))) ?_
    refine lv_imul hx hb dX10_acts_59 ?_
    refine p_nm (tt_mul (X := 3) (Y := ((ga u 7 5)).toInt) (by decide) rfl (by omega) (by omega)) (fun z11 hz11 => ?_)
    refine lv_iconst (v := 2) hx hb dX10_acts_60 (by decide) ?_
    refine lv_iadd hx hb dX10_acts_61 ?_
    refine p_nm (tt_add (X := (3 * ((ga u 7 5)).toInt)) (Y := 2) hz11 (by decide) (by omega) (by omega)) (fun z12 hz12 => ?_)
    refine lv_iload_n hx hb dX10_acts_62 rfl (lv_at hl 3 rfl) ?_
    refine r_iast (j := 10) hx hb hK hH 10 1 (mwc10 C A u10) rfl (i_ix hz12 (by omega) (by omega)) (mwa10 C A u10) dX10_acts_63 (fun u13 eu13 H locs hH => ?_)
    have hI := hI.pa0 eu13 (by decide) (by decide) (by decide)
    refine lv_aload_n hx hb dX10_acts_64 rfl (lv_at hl 0 rfl) ?_
    refine va_get (ci := 10) (v := .ref (A 7)) (C := RX10) (T := TX10) (N := 42) hx hb hts (fun w h => uc_in w (inX10 w h)) hown hK hH.1 0 (mwc0 C A u13) rfl 17 (by decide) (hts _ (uc_in _ q_f1205)) (fun _ h9 => h9) rfl dX10_acts_65 ?_
    refine lv_iconst (v := 5) hx hb dX10_acts_68 (by decide) ?_
    refine lv_dup2_11 hx hb dX10_acts_69 rfl rfl ?_
    refine va_iald hx hb hK hH.1 7 1 (mwc7 C A u13) rfl (i_ix (X := 5) (by decide) (by decide) (by decide)) dX10_acts_70 ?_
    refine pv_i (v := (ga u 7 5)) ((congrFun (ga_ne eu13 (by decide)) _).trans ((congrFun (ga_ne eu10 (by decide)) _).trans ((congrFun (ga_ne eu7 (by decide)) _).trans ((congrFun (hUu3.2.1 7 rfl) _).trans rfl)))) ?_
    refine lv_iconst (v := 1) hx hb dX10_acts_71 (by decide) ?_
    refine lv_iadd hx hb dX10_acts_72 ?_
    refine p_nm (tt_add (X := ((ga u 7 5)).toInt) (Y := 1) rfl (by decide) (by omega) (by omega)) (fun z14 hz14 => ?_)
    refine r_iast (j := 7) hx hb hK hH 7 1 (mwc7 C A u13) rfl (i_ix (X := 5) (by decide) (by decide) (by decide)) (mwa7 C A u13) dX10_acts_73 (fun u15 eu15 H locs hH => ?_)
    have hI := hI.pah eu15 hz14 (by omega) (show (((ga u 7 5)).toInt + 1) ≤ 40 by omega)
    refine lv_iload_n hx hb dX10_acts_74 rfl (lv_at hl 1 rfl) ?_
    refine lv_iconst (v := 2) hx hb dX10_acts_75 (by decide) ?_
    refine lv_icmp_le (tgt := 101) hx hb dX10_acts_76 (by decide) (fun c16 => ?_) (fun c16 => ?_)
    · have c16 := cLE (x := a0) (y := 2) (X := A0) (Y := 2) ha0 (by decide) c16
      refine lv_aload_n hx hb dX10_acts_101 rfl (lv_at hl 0 rfl) ?_
      refine va_get (ci := 10) (v := .ref (A 12)) (C := RX10) (T := TX10) (N := 42) hx hb hts (fun w h => uc_in w (inX10 w h)) hown hK hH.1 0 (mwc0 C A u15) rfl 22 (by decide) (hts _ (uc_in _ q_f1210)) (fun _ h9 => h9) rfl dX10_acts_102 ?_
      refine lv_bipush (v := 6) hx hb dX10_acts_105 (by decide) ?_
      refine lv_iload_n hx hb dX10_acts_107 rfl (lv_at hl 3 rfl) ?_
      refine lv_imul hx hb dX10_acts_108 ?_
      refine p_nm (tt_mul (X := 6) (Y := A2) (by decide) ha2 (by omega) (by omega)) (fun z17 hz17 => ?_)
      refine lv_iload_n hx hb dX10_acts_109 rfl (lv_at hl 2 rfl) ?_
      refine lv_iadd hx hb dX10_acts_110 ?_
      refine p_nm (tt_add (X := (6 * A2)) (Y := A1) hz17 ha1 (by omega) (by omega)) (fun z18 hz18 => ?_)
      refine va_iald hx hb hK hH.1 12 1 (mwc12 C A u15) rfl (i_ix hz18 (by omega) (by omega)) dX10_acts_111 ?_
      refine p_any (fun z19 => ?_)
      exact hret _ _ _ _ z19 _ dX10_acts_112 rfl ⟨hI, (Un.sa (Un.sa (Un.sa (Un.sa (Un.tr Un.rf hUu3 rfl rfl rfl) rfl eu7) rfl eu10) rfl eu13) rfl eu15), trivial⟩ hH
    · have c16 := cNLE (x := a0) (y := 2) (X := A0) (Y := 2) ha0 (by decide) c16
      refine lv_aload_n hx hb dX10_acts_79 rfl (lv_at hl 0 rfl) ?_
      refine va_get (ci := 10) (v := .ref (A 13)) (C := RX10) (T := TX10) (N := 42) hx hb hts (fun w h => uc_in w (inX10 w h)) hown hK hH.1 0 (mwc0 C A u15) rfl 23 (by decide) (hts _ (uc_in _ q_f1211)) (fun _ h9 => h9) rfl dX10_acts_80 ?_
      refine lv_bipush (v := 6) hx hb dX10_acts_83 (by decide) ?_
      refine lv_iload_n hx hb dX10_acts_85 rfl (lv_at hl 3 rfl) ?_
      refine lv_imul hx hb dX10_acts_86 ?_
      refine p_nm (tt_mul (X := 6) (Y := A2) (by decide) ha2 (by omega) (by omega)) (fun z20 hz20 => ?_)
      refine lv_iload_n hx hb dX10_acts_87 rfl (lv_at hl 2 rfl) ?_
      refine lv_iadd hx hb dX10_acts_88 ?_
      refine p_nm (tt_add (X := (6 * A2)) (Y := A1) hz20 ha1 (by omega) (by omega)) (fun z21 hz21 => ?_)
      refine va_zald hx hb hK hH.1 13 3 (mwc13 C A u15) rfl (i_ix hz21 (by omega) (by omega)) dX10_acts_89 ?_
      refine p_any (fun z22 => ?_)
      refine lv_if_eq (tgt := 97) hx hb dX10_acts_90 (by decide) (fun c23 => ?_) (fun c23 => ?_)
      · have c23 := cEQ (x := z22) (y := 0) (X := z22.toInt) (Y := 0) rfl (by decide) c23
        refine lv_iconst (v := 1) hx hb dX10_acts_97 (by decide) ?_
        refine lv_goto (tgt := 112) hx hb dX10_acts_98 (by decide) ?_
        exact hret _ _ _ _ (1 : Int32) _ dX10_acts_112 rfl ⟨hI, (Un.sa (Un.sa (Un.sa (Un.sa (Un.tr Un.rf hUu3 rfl rfl rfl) rfl eu7) rfl eu10) rfl eu13) rfl eu15), trivial⟩ hH
      · refine lv_iconst (v := 0) hx hb dX10_acts_93 (by decide) ?_
        refine lv_goto (tgt := 112) hx hb dX10_acts_94 (by decide) ?_
        exact hret _ _ _ _ (0 : Int32) _ dX10_acts_112 rfl ⟨hI, (Un.sa (Un.sa (Un.sa (Un.sa (Un.tr Un.rf hUu3 rfl rfl rfl) rfl eu7) rfl eu10) rfl eu13) rfl eu15), trivial⟩ hH
  · have c2 := cEQ (x := (ga u 7 5)) (y := 40) (X := ((ga u 7 5)).toInt) (Y := 40) rfl (by decide) c2
    refine lv_bipush (v := (-5)) hx hb dX10_acts_11 (by decide) ?_
    exact hret _ _ _ _ ((-5) : Int32) _ dX10_acts_13 rfl ⟨hI, Un.rf, trivial⟩ hH
set_option maxHeartbeats 4000000 in
set_option maxRecDepth 100000 in
theorem kX10_enter_0 (l : Launch) (D : va_G) (C : Nat → ClassId) (A : Nat → Nat) (u : St) (hI : IM u) (a0 : Int32) (A0 : Int) (ha0 : a0.toInt = A0) (a1 : Int32) (A1 : Int) (ha1 : a1.toInt = A1) (a2 : Int32) (A2 : Int) (ha2 : a2.toInt = A2) (sz : Nat) : MetI l yX10_enter cX10_enter 4 (some .int) 5 [.ref (A 0), .int a0, .int a1, .int a2] D (tyl C) (mw C A) X0 u sz (fun r u' => IM u' ∧ Un [(0, 0), (24, 24), (25, 25)] [(7, 7), (10, 10), (12, 12), (13, 13)] [] u u' ∧ (True)) := by
  refine mI (by decide) (Nat.le_of_ble_eq_true rfl) ?_
  intro p e s m below meth c ls ar Q hx hb hml hown hts hK hH hX hl hret
  have hown : s.vm.findClass RX10 = some m.cls := hown
  have hl : lv_has ls 4 [(0, .ref (A 0)), (1, .int a0), (2, .int a1), (3, .int a2)] := hl
  refine lv_aload_n hx hb dX10_enter_0 rfl (lv_at hl 0 rfl) ?_
  refine lv_iconst (v := 0) hx hb dX10_enter_1 (by decide) ?_
  refine r_put (j := 0) (ci := 10) (C := RX10) (T := TX10) (N := 42) hx hb hts (fun w h => uc_in w (inX10 w h)) tyX10 tyX10_ok nmX10 hown hK hH 0 (mwc0 C A u) rfl 0 (by decide) (hts _ (uc_in _ q_f1188)) (fun _ h9 => h9) rfl (by decide +kernel) (Nat.le_of_ble_eq_true rfl) (mws0 C A u _) dX10_enter_2 (fun u1 eu1 H locs hH => ?_)
  have hI := hI.pi0 eu1 rfl
  refine lv_aload_n hx hb dX10_enter_5 rfl (lv_at hl 0 rfl) ?_
  refine lv_iload_n hx hb dX10_enter_6 rfl (lv_at hl 1 rfl) ?_
  refine lv_i2l (v := a0.toInt64) hx hb dX10_enter_7 rfl ?_
  refine cvS (n := 1) (As := [.long a0.toInt64]) (rest := []) ⟨hx, hb, hml, hown, hts⟩ uc_in (kX10_isClock_0 l D C A u1 hI a0.toInt64 A0 (tt_i2l ha0)) q_m1460 q_n1462 q_p71 q_i11 q_c1463 hvX10_isClock ⟨(Nat.le_of_ble_eq_true rfl), (Nat.le_of_ble_eq_true rfl)⟩ ⟨(Nat.le_of_ble_eq_true rfl), (Nat.le_of_ble_eq_true rfl)⟩ hK hH.1 10 0 rfl (mwc0 C A u1) rfl hl.1 rfl (Nat.le_of_ble_eq_true rfl) dX10_enter_8 (fun r2 p3 => ?_)
  rcases p3 with ⟨e9, f4, f5⟩ | e9
  · subst e9
    have b7 : 0 ≤ ((ga u1 7 3)).toInt ∧ ((ga u1 7 3)).toInt ≤ 6 := hI.has 3
    refine lv_if_eq (tgt := 49) hx hb dX10_enter_11 (by decide) (fun c8 => absurd c8 (by decide)) (fun c8 => ?_)
    refine lv_aload_n hx hb dX10_enter_14 rfl (lv_at hl 0 rfl) ?_
    refine lv_iload_n hx hb dX10_enter_15 rfl (lv_at hl 2 rfl) ?_
    refine lv_i2l (v := a1.toInt64) hx hb dX10_enter_16 rfl ?_
    refine cvS (n := 1) (As := [.long a1.toInt64]) (rest := []) ⟨hx, hb, hml, hown, hts⟩ uc_in (kX10_isDay_0 l D C A u1 hI a1.toInt64 A1 (tt_i2l ha1)) q_m1473 q_n1475 q_p73 q_i11 q_c1476 hvX10_isDay ⟨(Nat.le_of_ble_eq_true rfl), (Nat.le_of_ble_eq_true rfl)⟩ ⟨(Nat.le_of_ble_eq_true rfl), (Nat.le_of_ble_eq_true rfl)⟩ hK hH.1 10 0 rfl (mwc0 C A u1) rfl hl.1 rfl (Nat.le_of_ble_eq_true rfl) dX10_enter_17 (fun r9 p10 => ?_)
    rcases p10 with ⟨e9, f11, f12⟩ | e9
    · subst e9
      have b14 : 0 ≤ ((ga u1 7 0)).toInt ∧ ((ga u1 7 0)).toInt ≤ 7 := hI.has 0
      refine lv_if_eq (tgt := 49) hx hb dX10_enter_20 (by decide) (fun c15 => absurd c15 (by decide)) (fun c15 => ?_)
      refine lv_iload_n hx hb dX10_enter_23 rfl (lv_at hl 3 rfl) ?_
      refine csS (n := 1) (As := [.int a2]) (rest := []) ⟨hx, hb, hml, hown, hts⟩ uc_in (kX10_isHalf_0 l D C A u1 hI a2 A2 ha2) q_m1664 q_s1665 q_i11 q_c1666 hvX10_isHalf ⟨(Nat.le_of_ble_eq_true rfl), (Nat.le_of_ble_eq_true rfl)⟩ ⟨(Nat.le_of_ble_eq_true rfl), (Nat.le_of_ble_eq_true rfl)⟩ hK hH.1 rfl hl.1 rfl (Nat.le_of_ble_eq_true rfl) dX10_enter_24 (fun r16 p17 => ?_)
      rcases p17 with ⟨e9, f18, f19⟩ | e9
      · subst e9
        refine lv_if_eq (tgt := 49) hx hb dX10_enter_27 (by decide) (fun c20 => absurd c20 (by decide)) (fun c20 => ?_)
        refine lv_aload_n hx hb dX10_enter_30 rfl (lv_at hl 0 rfl) ?_
        refine lv_iload_n hx hb dX10_enter_31 rfl (lv_at hl 3 rfl) ?_
        refine lv_iconst (v := 1) hx hb dX10_enter_32 (by decide) ?_
        have j41_26 : ∀ (ls : Array Slot) (y22d : Int32), 3 ≤ y22d.toInt → y22d.toInt ≤ 4 → lv_has ls 4 [(1, .int a0), (2, .int a1)] → W p l e (rmL 5 0 0) s m ar below meth c H locs 0 0 Q (F0 m 41 ls [.int y22d, .ref (A 0)]) := by
          intro ls y22d ly22d my22d hl
          refine lv_iload_n hx hb dX10_enter_41 rfl (lv_at hl 0 rfl) ?_
          refine lv_iload_n hx hb dX10_enter_42 rfl (lv_at hl 1 rfl) ?_
          refine cvI (n := 3) (As := [.int y22d, .int a0, .int a1]) (rest := []) ⟨hx, hb, hml, hown, hts⟩ uc_in (kX10_acts_0 l D C A u1 hI y22d y22d.toInt rfl a0 A0 ha0 a1 A1 ha1 (by omega) (by omega) (by omega) (by omega) _) q_m1871 q_n1873 q_p111 q_i11 q_c1874 hvX10_acts ⟨(Nat.le_of_ble_eq_true rfl), (Nat.le_of_ble_eq_true rfl)⟩ ⟨(Nat.le_of_ble_eq_true rfl), (Nat.le_of_ble_eq_true rfl)⟩ hK hH (fun q h => Or.inr h) Bl0 (fun _ _ _ => trivial) 10 0 rfl (mwc0 C A u1) rfl hl.1 rfl (Nat.le_of_ble_eq_true rfl) dX10_enter_43 (fun r29 u28 H locs p30 hH => ?_)
          obtain ⟨hI, hUu28, p30⟩ := p30
          refine lv_goto (tgt := 51) hx hb dX10_enter_46 (by decide) ?_
          exact hret _ _ _ _ r29 _ dX10_enter_51 rfl ⟨hI, (Un.tr (Un.si Un.rf rfl eu1) hUu28 rfl rfl rfl), trivial⟩ hH
        refine lv_icmp_ne (tgt := 40) hx hb dX10_enter_33 (by decide) (fun c21 => ?_) (fun c21 => ?_)
        · have c21 := cNE (x := a2) (y := 1) (X := A2) (Y := 1) ha2 (by decide) c21
          refine lv_iconst (v := 4) hx hb dX10_enter_40 (by decide) ?_
          exact j41_26 ls 4 (by decide) (by decide) (lv_sub hl [1, 2] rfl)
        · have c21 := cEQ (x := a2) (y := 1) (X := A2) (Y := 1) ha2 (by decide) c21
          refine lv_iconst (v := 3) hx hb dX10_enter_36 (by decide) ?_
          refine lv_goto (tgt := 41) hx hb dX10_enter_37 (by decide) ?_
          exact j41_26 ls 3 (by decide) (by decide) (lv_sub hl [1, 2] rfl)
      · subst e9
        refine lv_if_eq (tgt := 49) hx hb dX10_enter_27 (by decide) (fun c31 => ?_) (fun c31 => absurd c31 (by decide))
        refine lv_bipush (v := (-2)) hx hb dX10_enter_49 (by decide) ?_
        exact hret _ _ _ _ ((-2) : Int32) _ dX10_enter_51 rfl ⟨hI, (Un.si Un.rf rfl eu1), trivial⟩ hH
    · subst e9
      refine lv_if_eq (tgt := 49) hx hb dX10_enter_20 (by decide) (fun c32 => ?_) (fun c32 => absurd c32 (by decide))
      refine lv_bipush (v := (-2)) hx hb dX10_enter_49 (by decide) ?_
      exact hret _ _ _ _ ((-2) : Int32) _ dX10_enter_51 rfl ⟨hI, (Un.si Un.rf rfl eu1), trivial⟩ hH
  · subst e9
    refine lv_if_eq (tgt := 49) hx hb dX10_enter_11 (by decide) (fun c33 => ?_) (fun c33 => absurd c33 (by decide))
    refine lv_bipush (v := (-2)) hx hb dX10_enter_49 (by decide) ?_
    exact hret _ _ _ _ ((-2) : Int32) _ dX10_enter_51 rfl ⟨hI, (Un.si Un.rf rfl eu1), trivial⟩ hH
set_option maxHeartbeats 4000000 in
set_option maxRecDepth 100000 in
theorem kX10_fault_0 (l : Launch) (D : va_G) (C : Nat → ClassId) (A : Nat → Nat) (u : St) (hI : IM u) (a0 : Int32) (A0 : Int) (ha0 : a0.toInt = A0) (sz : Nat) : MetI l yX10_fault cX10_fault 2 (some .int) 1 [.ref (A 0), .int a0] D (tyl C) (mw C A) X0 u sz (fun r u' => IM u' ∧ Un [(0, 0)] [] [] u u' ∧ (True)) := by
  refine mI (by decide) (Nat.le_of_ble_eq_true rfl) ?_
  intro p e s m below meth c ls ar Q hx hb hml hown hts hK hH hX hl hret
  have hown : s.vm.findClass RX10 = some m.cls := hown
  have hl : lv_has ls 2 [(0, .ref (A 0)), (1, .int a0)] := hl
  refine lv_aload_n hx hb dX10_fault_0 rfl (lv_at hl 0 rfl) ?_
  refine lv_iconst (v := 0) hx hb dX10_fault_1 (by decide) ?_
  refine r_put (j := 0) (ci := 10) (C := RX10) (T := TX10) (N := 42) hx hb hts (fun w h => uc_in w (inX10 w h)) tyX10 tyX10_ok nmX10 hown hK hH 0 (mwc0 C A u) rfl 0 (by decide) (hts _ (uc_in _ q_f1188)) (fun _ h9 => h9) rfl (by decide +kernel) (Nat.le_of_ble_eq_true rfl) (mws0 C A u _) dX10_fault_2 (fun u1 eu1 H locs hH => ?_)
  have hI := hI.pi0 eu1 rfl
  refine lv_iload_n hx hb dX10_fault_5 rfl (lv_at hl 1 rfl) ?_
  refine lv_if_ne (tgt := 16) hx hb dX10_fault_6 (by decide) (fun c2 => ?_) (fun c2 => ?_)
  · refine lv_iload_n hx hb dX10_fault_16 rfl (lv_at hl 1 rfl) ?_
    refine lv_iconst (v := 1) hx hb dX10_fault_17 (by decide) ?_
    refine lv_icmp_ne (tgt := 28) hx hb dX10_fault_18 (by decide) (fun c3 => ?_) (fun c3 => ?_)
    · refine lv_iconst (v := (-1)) hx hb dX10_fault_28 (by decide) ?_
      exact hret _ _ _ _ ((-1) : Int32) _ dX10_fault_29 rfl ⟨hI, (Un.si Un.rf rfl eu1), trivial⟩ hH
    · have c3 := cEQ (x := a0) (y := 1) (X := A0) (Y := 1) ha0 (by decide) c3
      refine lv_aload_n hx hb dX10_fault_21 rfl (lv_at hl 0 rfl) ?_
      refine va_get (ci := 10) (v := .int (gi u1 15)) (C := RX10) (T := TX10) (N := 42) hx hb hts (fun w h => uc_in w (inX10 w h)) hown hK hH.1 0 (mwc0 C A u1) rfl 15 (by decide) (hts _ (uc_in _ q_f1203)) (fun _ h9 => h9) rfl dX10_fault_22 ?_
      refine lv_goto (tgt := 29) hx hb dX10_fault_25 (by decide) ?_
      exact hret _ _ _ _ (gi u1 15) _ dX10_fault_29 rfl ⟨hI, (Un.si Un.rf rfl eu1), trivial⟩ hH
  · have c2 := cEQ (x := a0) (y := 0) (X := A0) (Y := 0) ha0 (by decide) c2
    refine lv_aload_n hx hb dX10_fault_9 rfl (lv_at hl 0 rfl) ?_
    refine va_get (ci := 10) (v := .int (gi u1 14)) (C := RX10) (T := TX10) (N := 42) hx hb hts (fun w h => uc_in w (inX10 w h)) hown hK hH.1 0 (mwc0 C A u1) rfl 14 (by decide) (hts _ (uc_in _ q_f1202)) (fun _ h9 => h9) rfl dX10_fault_10 ?_
    refine lv_goto (tgt := 29) hx hb dX10_fault_13 (by decide) ?_
    exact hret _ _ _ _ (gi u1 14) _ dX10_fault_29 rfl ⟨hI, (Un.si Un.rf rfl eu1), trivial⟩ hH
set_option maxHeartbeats 4000000 in
set_option maxRecDepth 100000 in
theorem kX10_four_0 (l : Launch) (D : va_G) (C : Nat → ClassId) (A : Nat → Nat) (u : St) (hI : IM u) (a0 : Int32) (A0 : Int) (ha0 : a0.toInt = A0) (ht : (gi u 6).toInt ≤ 796) (sz : Nat) : MetV l yX10_four cX10_four 3 1 [.ref (A 0), .int a0] D (tyl C) (mw C A) X0 u sz (fun u' => IM u' ∧ Un [(6, 6)] [(5, 5)] [] u u' ∧ (gi u' 6).toInt = (gi u 6).toInt + 4) := by
  refine mV (by decide) (Nat.le_of_ble_eq_true rfl) ?_
  intro p e s m below meth c ls ar Q hx hb hml hown hts hK hH hX hl hret
  have hown : s.vm.findClass RX10 = some m.cls := hown
  have hl : lv_has ls 3 [(0, .ref (A 0)), (1, .int a0)] := hl
  refine lv_bipush (v := 24) hx hb dX10_four_0 (by decide) ?_
  refine lv_istore_n (lv' := [(2, .int 24), (0, .ref (A 0)), (1, .int a0)]) hx hb dX10_four_2 rfl hl (by decide) rfl (fun ls hl => ?_)
  have lp3_73 : ∀ (n3 : Nat) (ls : Array Slot) (y72d : Int32) (u73 : St) (H : Heap) (locs : List Loc), (-8) ≤ y72d.toInt → y72d.toInt ≤ 24 → 8 * (gi u73 6).toInt + y72d.toInt = 8 * (gi u 6).toInt + 24 → y72d.toInt - (-8) < (n3 : Int) → Un [(6, 6)] [(5, 5)] [] u u73 → IM u73 → Hd D (mw C A) (va_A (mw C A u) s.heap.size) s.heap u73 H locs → lv_has ls 3 [(2, .int y72d), (0, .ref (A 0)), (1, .int a0)] → W p l e (rmL 1 0 0) s m ar below meth c H locs 0 0 Q (F0 m 3 ls []) := by
    intro n3
    induction n3 with
    | zero => intro ls y72d u73 H locs ly72d my72d x3_0 hmun3 hUu73 hI hH hl; exfalso; omega
    | succ n3 ih3_73 =>
      intro ls y72d u73 H locs ly72d my72d x3_0 hmun3 hUu73 hI hH hl
      refine lv_iload_n hx hb dX10_four_3 rfl (lv_at hl 0 rfl) ?_
      refine lv_if_lt (tgt := 36) hx hb dX10_four_4 (by decide) (fun c75 => ?_) (fun c75 => ?_)
      · have c75 := cLT (x := y72d) (y := 0) (X := y72d.toInt) (Y := 0) rfl (by decide) c75
        exact hret _ _ _ _ _ dX10_four_36 ⟨hI, (Un.tr Un.rf hUu73 rfl rfl rfl), (by omega)⟩ hH
      · have c75 := cNLT (x := y72d) (y := 0) (X := y72d.toInt) (Y := 0) rfl (by decide) c75
        refine lv_aload_n hx hb dX10_four_7 rfl (lv_at hl 1 rfl) ?_
        refine va_get (ci := 10) (v := .ref (A 5)) (C := RX10) (T := TX10) (N := 42) hx hb hts (fun w h => uc_in w (inX10 w h)) hown hK hH.1 0 (mwc0 C A u73) rfl 5 (by decide) (hts _ (uc_in _ q_f1193)) (fun _ h9 => h9) rfl dX10_four_8 ?_
        refine lv_aload_n hx hb dX10_four_11 rfl (lv_at hl 1 rfl) ?_
        refine va_get (ci := 10) (v := .int (gi u73 6)) (C := RX10) (T := TX10) (N := 42) hx hb hts (fun w h => uc_in w (inX10 w h)) hown hK hH.1 0 (mwc0 C A u73) rfl 6 (by decide) (hts _ (uc_in _ q_f1194)) (fun _ h9 => h9) rfl dX10_four_12 ?_
        have b76 := hI.b6
        refine lv_iload_n hx hb dX10_four_15 rfl (lv_at hl 2 rfl) ?_
        refine lv_iload_n hx hb dX10_four_16 rfl (lv_at hl 0 rfl) ?_
        refine lv_ishr hx hb dX10_four_17 ?_
        refine p_any (fun z77 => ?_)
        refine lv_i2b hx hb dX10_four_18 rfl ?_
        refine p_any (fun z78 => ?_)
        refine r_bast (j := 5) hx hb hK hH 5 0 (mwc5 C A u73) rfl (i_ix rfl (by omega) (by omega)) (mwa5 C A u73) dX10_four_19 (fun u79 eu79 H locs hH => ?_)
        have hI := hI.pa0 eu79 (by decide) (by decide) (by decide)
        refine lv_aload_n hx hb dX10_four_20 rfl (lv_at hl 1 rfl) ?_
        refine lv_dup hx hb dX10_four_21 rfl ?_
        refine va_get (ci := 10) (v := .int (gi u79 6)) (C := RX10) (T := TX10) (N := 42) hx hb hts (fun w h => uc_in w (inX10 w h)) hown hK hH.1 0 (mwc0 C A u79) rfl 6 (by decide) (hts _ (uc_in _ q_f1194)) (fun _ h9 => h9) rfl dX10_four_22 ?_
        refine pv_i (v := (gi u73 6)) ((gi_sa eu79).trans rfl) ?_
        refine lv_iconst (v := 1) hx hb dX10_four_25 (by decide) ?_
        refine lv_iadd hx hb dX10_four_26 ?_
        refine p_nm (tt_add (X := ((gi u73 6)).toInt) (Y := 1) rfl (by decide) (by omega) (by omega)) (fun z80 hz80 => ?_)
        refine r_put (j := 6) (ci := 10) (C := RX10) (T := TX10) (N := 42) hx hb hts (fun w h => uc_in w (inX10 w h)) tyX10 tyX10_ok nmX10 hown hK hH 0 (mwc0 C A u79) rfl 6 (by decide) (hts _ (uc_in _ q_f1194)) (fun _ h9 => h9) rfl (by decide +kernel) (Nat.le_of_ble_eq_true rfl) (mws6 C A u79 _) dX10_four_27 (fun u81 eu81 H locs hH => ?_)
        have hI := hI.s6 eu81 hz80 (by omega) (by omega)
        obtain ⟨z82, ez82⟩ : ∃ z, z = y72d + Int32.ofInt (-8) := ⟨_, rfl⟩
        have hz82 : z82.toInt = y72d.toInt + (-8) := by rw [ez82]; exact tt_add rfl (by decide) (by omega) (by omega)
        refine lv_iinc (v := z82) (lv' := [(2, .int z82), (0, .ref (A 0)), (1, .int a0)]) hx hb dX10_four_30 hl (k := 0) rfl ez82.symm (by decide) rfl (fun ls hl => ?_)
        refine lv_goto (tgt := 3) hx hb dX10_four_33 (by decide) ?_
        exact ih3_73 ls z82 u81 _ _ (by have q9 := (show z82.toInt = (y72d.toInt + (-8)) from hz82); omega) (by have q9 := (show z82.toInt = (y72d.toInt + (-8)) from hz82); omega) (by have q6 := (show (gi u81 6).toInt = (((gi u73 6)).toInt + 1) from (congrArg Int32.toInt (show gi u81 6 = z80 from (gi_si eu81))).trans hz80); have r2 := (show (z82 : Int32).toInt = (y72d.toInt + (-8)) from hz82); omega) (by have q9 := (show z82.toInt = (y72d.toInt + (-8)) from hz82); omega) (Un.si (Un.sa hUu73 rfl eu79) rfl eu81) hI hH hl
  exact lp3_73 33 ls 24 u _ _ (by decide) (by decide) (by have r2 := (show (24 : Int32).toInt = 24 from (by decide)); omega) (by have q9 : (24 : Int32).toInt = 24 := (by decide); omega) Un.rf hI hH hl
set_option maxHeartbeats 4000000 in
set_option maxRecDepth 100000 in
theorem kX10_feed_0 (l : Launch) (D : va_G) (C : Nat → ClassId) (A : Nat → Nat) (u : St) (hI : IM u) (a0 : Int32) (A0 : Int) (ha0 : a0.toInt = A0) (a1 : Int32) (A1 : Int) (ha1 : a1.toInt = A1) (a2 : Int32) (A2 : Int) (ha2 : a2.toInt = A2) (a3 : Int32) (A3 : Int) (ha3 : a3.toInt = A3) (a4 : Int32) (A4 : Int) (ha4 : a4.toInt = A4) (sz : Nat) : MetI l yX10_feed cX10_feed 6 (some .int) 2 [.ref (A 0), .int a0, .int a1, .int a2, .int a3, .int a4] D (tyl C) (mw C A) X0 u sz (fun r u' => IM u' ∧ Un [(0, 0), (6, 6)] [(5, 5)] [] u u' ∧ ((-1) ≤ r.toInt ∧ r.toInt ≤ 800)) := by
  refine mI (by decide) (Nat.le_of_ble_eq_true rfl) ?_
  intro p e s m below meth c ls ar Q hx hb hml hown hts hK hH hX hl hret
  have hown : s.vm.findClass RX10 = some m.cls := hown
  have hl : lv_has ls 6 [(0, .ref (A 0)), (1, .int a0), (2, .int a1), (3, .int a2), (4, .int a3), (5, .int a4)] := hl
  refine lv_aload_n hx hb dX10_feed_0 rfl (lv_at hl 0 rfl) ?_
  refine lv_iconst (v := 0) hx hb dX10_feed_1 (by decide) ?_
  refine r_put (j := 0) (ci := 10) (C := RX10) (T := TX10) (N := 42) hx hb hts (fun w h => uc_in w (inX10 w h)) tyX10 tyX10_ok nmX10 hown hK hH 0 (mwc0 C A u) rfl 0 (by decide) (hts _ (uc_in _ q_f1188)) (fun _ h9 => h9) rfl (by decide +kernel) (Nat.le_of_ble_eq_true rfl) (mws0 C A u _) dX10_feed_2 (fun u1 eu1 H locs hH => ?_)
  have hI := hI.pi0 eu1 rfl
  refine lv_aload_n hx hb dX10_feed_5 rfl (lv_at hl 0 rfl) ?_
  refine va_get (ci := 10) (v := .int (gi u1 6)) (C := RX10) (T := TX10) (N := 42) hx hb hts (fun w h => uc_in w (inX10 w h)) hown hK hH.1 0 (mwc0 C A u1) rfl 6 (by decide) (hts _ (uc_in _ q_f1194)) (fun _ h9 => h9) rfl dX10_feed_6 ?_
  have b2 := hI.b6
  refine lv_bipush (v := 20) hx hb dX10_feed_9 (by decide) ?_
  refine lv_iadd hx hb dX10_feed_11 ?_
  refine p_nm (tt_add (X := ((gi u1 6)).toInt) (Y := 20) rfl (by decide) (by omega) (by omega)) (fun z3 hz3 => ?_)
  refine lv_sipush (v := 800) hx hb dX10_feed_12 (by decide) ?_
  refine lv_icmp_le (tgt := 20) hx hb dX10_feed_15 (by decide) (fun c4 => ?_) (fun c4 => ?_)
  · have c4 := cLE (x := z3) (y := 800) (X := (((gi u1 6)).toInt + 20)) (Y := 800) hz3 (by decide) c4
    refine lv_aload_n hx hb dX10_feed_20 rfl (lv_at hl 0 rfl) ?_
    refine lv_iload_n hx hb dX10_feed_21 rfl (lv_at hl 1 rfl) ?_
    refine cvU (n := 1) (As := [.int a0]) (rest := []) ⟨hx, hb, hml, hown, hts⟩ uc_in (kX10_four_0 l D C A u1 hI a0 A0 ha0 (by have q6 := (show (gi u1 6).toInt = ((gi u1 6)).toInt from (congrArg Int32.toInt (show gi u1 6 = (gi u1 6) from rfl)).trans rfl); omega) _) q_m1342 q_n1344 q_p51 q_i11 q_c1345 hvX10_four ⟨(Nat.le_of_ble_eq_true rfl), (Nat.le_of_ble_eq_true rfl)⟩ ⟨(Nat.le_of_ble_eq_true rfl), (Nat.le_of_ble_eq_true rfl)⟩ hK hH (fun q h => Or.inr h) Bl0 (fun _ _ _ => trivial) 10 0 rfl (mwc0 C A u1) rfl hl.1 rfl (Nat.le_of_ble_eq_true rfl) dX10_feed_22 (fun u5 H locs p7 hH => ?_)
    obtain ⟨hI, hUu5, p7⟩ := p7
    refine lv_aload_n hx hb dX10_feed_25 rfl (lv_at hl 0 rfl) ?_
    refine lv_iload_n hx hb dX10_feed_26 rfl (lv_at hl 2 rfl) ?_
    refine cvU (n := 1) (As := [.int a1]) (rest := []) ⟨hx, hb, hml, hown, hts⟩ uc_in (kX10_four_0 l D C A u5 hI a1 A1 ha1 (by have q6 := (show (gi u5 6).toInt = ((gi u5 6)).toInt from (congrArg Int32.toInt (show gi u5 6 = (gi u5 6) from rfl)).trans rfl); omega) _) q_m1342 q_n1344 q_p51 q_i11 q_c1345 hvX10_four ⟨(Nat.le_of_ble_eq_true rfl), (Nat.le_of_ble_eq_true rfl)⟩ ⟨(Nat.le_of_ble_eq_true rfl), (Nat.le_of_ble_eq_true rfl)⟩ hK hH (fun q h => Or.inr h) Bl0 (fun _ _ _ => trivial) 10 0 rfl (mwc0 C A u5) rfl hl.1 rfl (Nat.le_of_ble_eq_true rfl) dX10_feed_27 (fun u8 H locs p10 hH => ?_)
    obtain ⟨hI, hUu8, p10⟩ := p10
    refine lv_aload_n hx hb dX10_feed_30 rfl (lv_at hl 0 rfl) ?_
    refine lv_iload_n hx hb dX10_feed_31 rfl (lv_at hl 3 rfl) ?_
    refine cvU (n := 1) (As := [.int a2]) (rest := []) ⟨hx, hb, hml, hown, hts⟩ uc_in (kX10_four_0 l D C A u8 hI a2 A2 ha2 (by have q6 := (show (gi u8 6).toInt = ((gi u8 6)).toInt from (congrArg Int32.toInt (show gi u8 6 = (gi u8 6) from rfl)).trans rfl); omega) _) q_m1342 q_n1344 q_p51 q_i11 q_c1345 hvX10_four ⟨(Nat.le_of_ble_eq_true rfl), (Nat.le_of_ble_eq_true rfl)⟩ ⟨(Nat.le_of_ble_eq_true rfl), (Nat.le_of_ble_eq_true rfl)⟩ hK hH (fun q h => Or.inr h) Bl0 (fun _ _ _ => trivial) 10 0 rfl (mwc0 C A u8) rfl hl.1 rfl (Nat.le_of_ble_eq_true rfl) dX10_feed_32 (fun u11 H locs p13 hH => ?_)
    obtain ⟨hI, hUu11, p13⟩ := p13
    refine lv_aload_n hx hb dX10_feed_35 rfl (lv_at hl 0 rfl) ?_
    refine lv_iload hx hb dX10_feed_36 (lv_at hl 4 rfl) ?_
    refine cvU (n := 1) (As := [.int a3]) (rest := []) ⟨hx, hb, hml, hown, hts⟩ uc_in (kX10_four_0 l D C A u11 hI a3 A3 ha3 (by have q6 := (show (gi u11 6).toInt = ((gi u11 6)).toInt from (congrArg Int32.toInt (show gi u11 6 = (gi u11 6) from rfl)).trans rfl); omega) _) q_m1342 q_n1344 q_p51 q_i11 q_c1345 hvX10_four ⟨(Nat.le_of_ble_eq_true rfl), (Nat.le_of_ble_eq_true rfl)⟩ ⟨(Nat.le_of_ble_eq_true rfl), (Nat.le_of_ble_eq_true rfl)⟩ hK hH (fun q h => Or.inr h) Bl0 (fun _ _ _ => trivial) 10 0 rfl (mwc0 C A u11) rfl hl.1 rfl (Nat.le_of_ble_eq_true rfl) dX10_feed_38 (fun u14 H locs p16 hH => ?_)
    obtain ⟨hI, hUu14, p16⟩ := p16
    refine lv_aload_n hx hb dX10_feed_41 rfl (lv_at hl 0 rfl) ?_
    refine lv_iload hx hb dX10_feed_42 (lv_at hl 5 rfl) ?_
    refine cvU (n := 1) (As := [.int a4]) (rest := []) ⟨hx, hb, hml, hown, hts⟩ uc_in (kX10_four_0 l D C A u14 hI a4 A4 ha4 (by have q6 := (show (gi u14 6).toInt = ((gi u14 6)).toInt from (congrArg Int32.toInt (show gi u14 6 = (gi u14 6) from rfl)).trans rfl); omega) _) q_m1342 q_n1344 q_p51 q_i11 q_c1345 hvX10_four ⟨(Nat.le_of_ble_eq_true rfl), (Nat.le_of_ble_eq_true rfl)⟩ ⟨(Nat.le_of_ble_eq_true rfl), (Nat.le_of_ble_eq_true rfl)⟩ hK hH (fun q h => Or.inr h) Bl0 (fun _ _ _ => trivial) 10 0 rfl (mwc0 C A u14) rfl hl.1 rfl (Nat.le_of_ble_eq_true rfl) dX10_feed_44 (fun u17 H locs p19 hH => ?_)
    obtain ⟨hI, hUu17, p19⟩ := p19
    refine lv_aload_n hx hb dX10_feed_47 rfl (lv_at hl 0 rfl) ?_
    refine va_get (ci := 10) (v := .int (gi u17 6)) (C := RX10) (T := TX10) (N := 42) hx hb hts (fun w h => uc_in w (inX10 w h)) hown hK hH.1 0 (mwc0 C A u17) rfl 6 (by decide) (hts _ (uc_in _ q_f1194)) (fun _ h9 => h9) rfl dX10_feed_48 ?_
    exact hret _ _ _ _ (gi u17 6) _ dX10_feed_51 rfl ⟨hI, (Un.tr (Un.tr (Un.tr (Un.tr (Un.tr (Un.si Un.rf rfl eu1) hUu5 rfl rfl rfl) hUu8 rfl rfl rfl) hUu11 rfl rfl rfl) hUu14 rfl rfl rfl) hUu17 rfl rfl rfl), ⟨by omega, by omega⟩⟩ hH
  · have c4 := cNLE (x := z3) (y := 800) (X := (((gi u1 6)).toInt + 20)) (Y := 800) hz3 (by decide) c4
    refine lv_iconst (v := (-1)) hx hb dX10_feed_18 (by decide) ?_
    exact hret _ _ _ _ ((-1) : Int32) _ dX10_feed_19 rfl ⟨hI, (Un.si Un.rf rfl eu1), ⟨by decide, by decide⟩⟩ hH
set_option maxHeartbeats 4000000 in
set_option maxRecDepth 100000 in
theorem kX10_mendsFrom_3 (l : Launch) (D : va_G) (C : Nat → ClassId) (A : Nat → Nat) (u : St) (hI : IM u) (a0 : Int32) (A0 : Int) (ha0 : a0.toInt = A0) (a1 : Int32) (A1 : Int) (ha1 : a1.toInt = A1) (a2 : Int32) (A2 : Int) (ha2 : a2.toInt = A2) (hl0 : 3 ≤ A0) (hm0 : A0 ≤ 3) (hl1 : 0 ≤ A1) (hm1 : A1 ≤ 42) (hn25 : gi u 25 = 3) (sz : Nat) : MetV l yX10_mendsFrom cX10_mendsFrom 5 7 [.ref (A 0), .int a0, .int a1, .int a2] D (tyl C) (mw C A) X0 u sz (fun u' => IM u' ∧ Un [(28, 28), (29, 29), (30, 30)] [(12, 12), (13, 13)] [] u u' ∧ gi u' 25 = 3) := by
  refine mV (by decide) (Nat.le_of_ble_eq_true rfl) ?_
  intro p e s m below meth c ls ar Q hx hb hml hown hts hK hH hX hl hret
  have hown : s.vm.findClass RX10 = some m.cls := hown
  have hl : lv_has ls 5 [(0, .ref (A 0)), (1, .int a0), (2, .int a1), (3, .int a2)] := hl
  refine lv_aload_n hx hb dX10_mendsFrom_0 rfl (lv_at hl 0 rfl) ?_
  refine va_get (ci := 10) (v := .int (gi u 25)) (C := RX10) (T := TX10) (N := 42) hx hb hts (fun w h => uc_in w (inX10 w h)) hown hK hH.1 0 (mwc0 C A u) rfl 25 (by decide) (hts _ (uc_in _ q_f1213)) (fun _ h9 => h9) rfl dX10_mendsFrom_1 ?_
  refine pv_i (v := 3) hn25 ?_
  refine lv_iload_n hx hb dX10_mendsFrom_4 rfl (lv_at hl 1 rfl) ?_
  refine lv_icmp_ne (tgt := 89) hx hb dX10_mendsFrom_5 (by decide) (fun c1 => absurd (cNE (x := 3) (y := a0) (X := 3) (Y := A0) (by decide) ha0 c1) (by omega)) (fun c1 => ?_)
  have c1 := cEQ (x := 3) (y := a0) (X := 3) (Y := A0) (by decide) ha0 c1
  refine lv_aload_n hx hb dX10_mendsFrom_8 rfl (lv_at hl 0 rfl) ?_
  refine cvU (n := 0) (As := []) (rest := []) ⟨hx, hb, hml, hown, hts⟩ uc_in (kX10_runs_0 l D C A u hI  _) q_m1485 q_n1487 q_p76 q_i11 q_c1488 hvX10_runs ⟨(Nat.le_of_ble_eq_true rfl), (Nat.le_of_ble_eq_true rfl)⟩ ⟨(Nat.le_of_ble_eq_true rfl), (Nat.le_of_ble_eq_true rfl)⟩ hK hH (fun q h => Or.inr h) Bl0 (fun _ _ _ => trivial) 10 0 rfl (mwc0 C A u) rfl hl.1 rfl (Nat.le_of_ble_eq_true rfl) dX10_mendsFrom_9 (fun u2 H locs p4 hH => ?_)
  obtain ⟨hI, hUu2, p4⟩ := p4
  refine lv_iload_n hx hb dX10_mendsFrom_12 rfl (lv_at hl 3 rfl) ?_
  refine lv_iconst (v := (-1)) hx hb dX10_mendsFrom_13 (by decide) ?_
  have j37_21 : ∀ (ls : Array Slot) (y11d : Int32), lv_has ls 5 [(0, .ref (A 0)), (1, .int a0)] → W p l e (rmL 7 0 0) s m ar below meth c H locs 0 0 Q (F0 m 37 ls [.int y11d]) := by
    intro ls y11d hl
    refine lv_istore (lv' := [(4, .int y11d), (0, .ref (A 0)), (1, .int a0)]) hx hb dX10_mendsFrom_37 hl (by decide) rfl (fun ls hl => ?_)
    refine lv_iload hx hb dX10_mendsFrom_39 (lv_at hl 0 rfl) ?_
    refine lv_aload_n hx hb dX10_mendsFrom_41 rfl (lv_at hl 1 rfl) ?_
    refine va_get (ci := 10) (v := .int (gi u2 28)) (C := RX10) (T := TX10) (N := 42) hx hb hts (fun w h => uc_in w (inX10 w h)) hown hK hH.1 0 (mwc0 C A u2) rfl 28 (by decide) (hts _ (uc_in _ q_f1216)) (fun _ h9 => h9) rfl dX10_mendsFrom_42 ?_
    refine lv_icmp_lt (tgt := 49) hx hb dX10_mendsFrom_45 (by decide) (fun c23 => ?_) (fun c23 => ?_)
    · have c23 := cLT (x := y11d) (y := (gi u2 28)) (X := y11d.toInt) (Y := ((gi u2 28)).toInt) rfl rfl c23
      refine lv_aload_n hx hb dX10_mendsFrom_49 rfl (lv_at hl 1 rfl) ?_
      refine lv_iload hx hb dX10_mendsFrom_50 (lv_at hl 0 rfl) ?_
      refine r_put (j := 28) (ci := 10) (C := RX10) (T := TX10) (N := 42) hx hb hts (fun w h => uc_in w (inX10 w h)) tyX10 tyX10_ok nmX10 hown hK hH 0 (mwc0 C A u2) rfl 28 (by decide) (hts _ (uc_in _ q_f1216)) (fun _ h9 => h9) rfl (by decide +kernel) (Nat.le_of_ble_eq_true rfl) (mws28 C A u2 _) dX10_mendsFrom_52 (fun u24 eu24 H locs hH => ?_)
      have hI := hI.pi0 eu24 rfl
      refine lv_aload_n hx hb dX10_mendsFrom_55 rfl (lv_at hl 1 rfl) ?_
      refine lv_iload_n hx hb dX10_mendsFrom_56 rfl (lv_at hl 2 rfl) ?_
      refine r_put (j := 30) (ci := 10) (C := RX10) (T := TX10) (N := 42) hx hb hts (fun w h => uc_in w (inX10 w h)) tyX10 tyX10_ok nmX10 hown hK hH 0 (mwc0 C A u24) rfl 30 (by decide) (hts _ (uc_in _ q_f1218)) (fun _ h9 => h9) rfl (by decide +kernel) (Nat.le_of_ble_eq_true rfl) (mws30 C A u24 _) dX10_mendsFrom_57 (fun u25 eu25 H locs hH => ?_)
      have hI := hI.pi0 eu25 rfl
      refine lv_aload_n hx hb dX10_mendsFrom_60 rfl (lv_at hl 1 rfl) ?_
      refine lv_iload_n hx hb dX10_mendsFrom_61 rfl (lv_at hl 2 rfl) ?_
      refine lv_if_ne (tgt := 69) hx hb dX10_mendsFrom_62 (by decide) (fun c26 => ?_) (fun c26 => absurd (cEQ (x := a0) (y := 0) (X := A0) (Y := 0) ha0 (by decide) c26) (by omega))
      refine lv_bipush (v := 10) hx hb dX10_mendsFrom_69 (by decide) ?_
      refine lv_aload_n hx hb dX10_mendsFrom_71 rfl (lv_at hl 1 rfl) ?_
      refine va_get (ci := 10) (v := .ref (A 14)) (C := RX10) (T := TX10) (N := 42) hx hb hts (fun w h => uc_in w (inX10 w h)) hown hK hH.1 0 (mwc0 C A u25) rfl 26 (by decide) (hts _ (uc_in _ q_f1214)) (fun _ h9 => h9) rfl dX10_mendsFrom_72 ?_
      refine lv_iconst (v := 0) hx hb dX10_mendsFrom_75 (by decide) ?_
      refine va_iald hx hb hK hH.1 14 1 (mwc14 C A u25) rfl (i_ix (X := 0) (by decide) (by decide) (by decide)) dX10_mendsFrom_76 ?_
      refine p_any (fun z27 => ?_)
      refine lv_imul hx hb dX10_mendsFrom_77 ?_
      refine p_any (fun z28 => ?_)
      refine lv_aload_n hx hb dX10_mendsFrom_78 rfl (lv_at hl 1 rfl) ?_
      refine va_get (ci := 10) (v := .ref (A 15)) (C := RX10) (T := TX10) (N := 42) hx hb hts (fun w h => uc_in w (inX10 w h)) hown hK hH.1 0 (mwc0 C A u25) rfl 27 (by decide) (hts _ (uc_in _ q_f1215)) (fun _ h9 => h9) rfl dX10_mendsFrom_79 ?_
      refine lv_iconst (v := 0) hx hb dX10_mendsFrom_82 (by decide) ?_
      refine va_iald hx hb hK hH.1 15 1 (mwc15 C A u25) rfl (i_ix (X := 0) (by decide) (by decide) (by decide)) dX10_mendsFrom_83 ?_
      refine p_any (fun z29 => ?_)
      refine lv_iadd hx hb dX10_mendsFrom_84 ?_
      refine p_any (fun z30 => ?_)
      refine r_put (j := 29) (ci := 10) (C := RX10) (T := TX10) (N := 42) hx hb hts (fun w h => uc_in w (inX10 w h)) tyX10 tyX10_ok nmX10 hown hK hH 0 (mwc0 C A u25) rfl 29 (by decide) (hts _ (uc_in _ q_f1217)) (fun _ h9 => h9) rfl (by decide +kernel) (Nat.le_of_ble_eq_true rfl) (mws29 C A u25 _) dX10_mendsFrom_85 (fun u31 eu31 H locs hH => ?_)
      have hI := hI.pi0 eu31 rfl
      exact hret _ _ _ _ _ dX10_mendsFrom_88 ⟨hI, (Un.si (Un.si (Un.si (Un.tr Un.rf hUu2 rfl rfl rfl) rfl eu24) rfl eu25) rfl eu31), ((gi_ne eu31 (by decide)).trans ((gi_ne eu25 (by decide)).trans ((gi_ne eu24 (by decide)).trans ((hUu2.1 25 rfl).trans hn25))))⟩ hH
    · have c23 := cNLT (x := y11d) (y := (gi u2 28)) (X := y11d.toInt) (Y := ((gi u2 28)).toInt) rfl rfl c23
      exact hret _ _ _ _ _ dX10_mendsFrom_48 ⟨hI, (Un.tr Un.rf hUu2 rfl rfl rfl), ((hUu2.1 25 rfl).trans hn25)⟩ hH
  refine lv_icmp_ne (tgt := 24) hx hb dX10_mendsFrom_14 (by decide) (fun c5 => ?_) (fun c5 => ?_)
  · refine lv_aload_n hx hb dX10_mendsFrom_24 rfl (lv_at hl 0 rfl) ?_
    refine lv_iload_n hx hb dX10_mendsFrom_25 rfl (lv_at hl 3 rfl) ?_
    refine cvS (n := 1) (As := [.int a2]) (rest := []) ⟨hx, hb, hml, hown, hts⟩ uc_in (kX10_isBy_0 l D C A u2 hI a2 A2 ha2) q_m1678 q_n1680 q_p92 q_i11 q_c1681 hvX10_isBy ⟨(Nat.le_of_ble_eq_true rfl), (Nat.le_of_ble_eq_true rfl)⟩ ⟨(Nat.le_of_ble_eq_true rfl), (Nat.le_of_ble_eq_true rfl)⟩ hK hH.1 10 0 rfl (mwc0 C A u2) rfl hl.1 rfl (Nat.le_of_ble_eq_true rfl) dX10_mendsFrom_26 (fun r32 p33 => ?_)
    have p33 : 0 ≤ r32.toInt ∧ r32.toInt ≤ 1 := p33
    refine lv_if_eq (tgt := 36) hx hb dX10_mendsFrom_29 (by decide) (fun c34 => ?_) (fun c34 => ?_)
    · have c34 := cEQ (x := r32) (y := 0) (X := r32.toInt) (Y := 0) rfl (by decide) c34
      refine lv_iconst (v := 1) hx hb dX10_mendsFrom_36 (by decide) ?_
      exact j37_21 ls 1 (lv_sub hl [0, 1] rfl)
    · have c34 := cNE (x := r32) (y := 0) (X := r32.toInt) (Y := 0) rfl (by decide) c34
      refine lv_iconst (v := 0) hx hb dX10_mendsFrom_32 (by decide) ?_
      refine lv_goto (tgt := 37) hx hb dX10_mendsFrom_33 (by decide) ?_
      exact j37_21 ls 0 (lv_sub hl [0, 1] rfl)
  · have c5 := cEQ (x := a2) (y := (-1)) (X := A2) (Y := (-1)) ha2 (by decide) c5
    refine lv_aload_n hx hb dX10_mendsFrom_17 rfl (lv_at hl 0 rfl) ?_
    refine cvS (n := 0) (As := []) (rest := []) ⟨hx, hb, hml, hown, hts⟩ uc_in (kX10_waitAll_0 l D C A u2 hI ) q_m1558 q_n1560 q_p85 q_i11 q_c1561 hvX10_waitAll ⟨(Nat.le_of_ble_eq_true rfl), (Nat.le_of_ble_eq_true rfl)⟩ ⟨(Nat.le_of_ble_eq_true rfl), (Nat.le_of_ble_eq_true rfl)⟩ hK hH.1 10 0 rfl (mwc0 C A u2) rfl hl.1 rfl (Nat.le_of_ble_eq_true rfl) dX10_mendsFrom_18 (fun r35 p36 => ?_)
    refine lv_goto (tgt := 37) hx hb dX10_mendsFrom_21 (by decide) ?_
    exact j37_21 ls r35 (lv_sub hl [0, 1] rfl)
set_option maxHeartbeats 4000000 in
set_option maxRecDepth 100000 in
theorem kX10_mendsFrom_2 (l : Launch) (D : va_G) (C : Nat → ClassId) (A : Nat → Nat) (u : St) (hI : IM u) (a0 : Int32) (A0 : Int) (ha0 : a0.toInt = A0) (a1 : Int32) (A1 : Int) (ha1 : a1.toInt = A1) (a2 : Int32) (A2 : Int) (ha2 : a2.toInt = A2) (hl0 : 2 ≤ A0) (hm0 : A0 ≤ 3) (hl1 : 0 ≤ A1) (hm1 : A1 ≤ 42) (hn25 : gi u 25 = 2) (sz : Nat) : MetV l yX10_mendsFrom cX10_mendsFrom 5 8 [.ref (A 0), .int a0, .int a1, .int a2] D (tyl C) (mw C A) X0 u sz (fun u' => IM u' ∧ Un [(25, 25), (28, 28), (29, 29), (30, 30)] [(12, 12), (13, 13), (14, 14), (15, 15)] [] u u' ∧ gi u' 25 = 2) := by
  refine mV (by decide) (Nat.le_of_ble_eq_true rfl) ?_
  intro p e s m below meth c ls ar Q hx hb hml hown hts hK hH hX hl hret
  have hown : s.vm.findClass RX10 = some m.cls := hown
  have hl : lv_has ls 5 [(0, .ref (A 0)), (1, .int a0), (2, .int a1), (3, .int a2)] := hl
  refine lv_aload_n hx hb dX10_mendsFrom_0 rfl (lv_at hl 0 rfl) ?_
  refine va_get (ci := 10) (v := .int (gi u 25)) (C := RX10) (T := TX10) (N := 42) hx hb hts (fun w h => uc_in w (inX10 w h)) hown hK hH.1 0 (mwc0 C A u) rfl 25 (by decide) (hts _ (uc_in _ q_f1213)) (fun _ h9 => h9) rfl dX10_mendsFrom_1 ?_
  refine pv_i (v := 2) hn25 ?_
  refine lv_iload_n hx hb dX10_mendsFrom_4 rfl (lv_at hl 1 rfl) ?_
  refine lv_icmp_ne (tgt := 89) hx hb dX10_mendsFrom_5 (by decide) (fun c1 => ?_) (fun c1 => ?_)
  · have c1 := cNE (x := 2) (y := a0) (X := 2) (Y := A0) (by decide) ha0 c1
    refine lv_iload_n hx hb dX10_mendsFrom_89 rfl (lv_at hl 2 rfl) ?_
    refine lv_istore (lv' := [(4, .int a1), (0, .ref (A 0)), (1, .int a0), (2, .int a1), (3, .int a2)]) hx hb dX10_mendsFrom_90 hl (by decide) rfl (fun ls hl => ?_)
    have lp92_77 : ∀ (n92 : Nat) (ls : Array Slot) (y76d : Int32) (u77 : St) (H : Heap) (locs : List Loc), 0 ≤ y76d.toInt → y76d.toInt ≤ 42 → gi u77 25 = 2 → 42 - y76d.toInt < (n92 : Int) → Un [(25, 25), (28, 28), (29, 29), (30, 30)] [(12, 12), (13, 13), (14, 14), (15, 15)] [] u u77 → IM u77 → Hd D (mw C A) (va_A (mw C A u) s.heap.size) s.heap u77 H locs → lv_has ls 5 [(4, .int y76d), (0, .ref (A 0)), (1, .int a0), (3, .int a2)] → W p l e (rmL 8 0 0) s m ar below meth c H locs 0 0 Q (F0 m 92 ls []) := by
      intro n92
      induction n92 with
      | zero => intro ls y76d u77 H locs ly76d my76d hku77_0 hmun92 hUu77 hI hH hl; exfalso; omega
      | succ n92 ih92_77 =>
        intro ls y76d u77 H locs ly76d my76d hku77_0 hmun92 hUu77 hI hH hl
        refine lv_iload hx hb dX10_mendsFrom_92 (lv_at hl 0 rfl) ?_
        refine lv_aload_n hx hb dX10_mendsFrom_94 rfl (lv_at hl 1 rfl) ?_
        refine cvS (n := 0) (As := []) (rest := [.int y76d]) ⟨hx, hb, hml, hown, hts⟩ uc_in (kX10_days_0 l D C A u77 hI ) q_m1477 q_n1479 q_p74 q_i11 q_c1480 hvX10_days ⟨(Nat.le_of_ble_eq_true rfl), (Nat.le_of_ble_eq_true rfl)⟩ ⟨(Nat.le_of_ble_eq_true rfl), (Nat.le_of_ble_eq_true rfl)⟩ hK hH.1 10 0 rfl (mwc0 C A u77) rfl hl.1 rfl (Nat.le_of_ble_eq_true rfl) dX10_mendsFrom_95 (fun r79 p80 => ?_)
        subst p80
        have b81 : 0 ≤ ((ga u77 7 0)).toInt ∧ ((ga u77 7 0)).toInt ≤ 7 := hI.has 0
        refine lv_aload_n hx hb dX10_mendsFrom_98 rfl (lv_at hl 1 rfl) ?_
        refine cvS (n := 0) (As := []) (rest := [.int (ga u77 7 0), .int y76d]) ⟨hx, hb, hml, hown, hts⟩ uc_in (kX10_clocks_0 l D C A u77 hI ) q_m1464 q_n1466 q_p72 q_i11 q_c1467 hvX10_clocks ⟨(Nat.le_of_ble_eq_true rfl), (Nat.le_of_ble_eq_true rfl)⟩ ⟨(Nat.le_of_ble_eq_true rfl), (Nat.le_of_ble_eq_true rfl)⟩ hK hH.1 10 0 rfl (mwc0 C A u77) rfl hl.1 rfl (Nat.le_of_ble_eq_true rfl) dX10_mendsFrom_99 (fun r82 p83 => ?_)
        subst p83
        have b84 : 0 ≤ ((ga u77 7 3)).toInt ∧ ((ga u77 7 3)).toInt ≤ 6 := hI.has 3
        refine lv_imul hx hb dX10_mendsFrom_102 ?_
        refine p_bd (P := fun q => (0 ≤ q ∧ q ≤ 42) ∧ (((ga u77 7 0)).toInt = 0 → q = 0) ∧ (((ga u77 7 3)).toInt = 0 → q = 0)) (tt_mulB 7 6 42 rfl rfl (by omega) (by omega) (by omega) (by omega) (by decide) (by decide)) (fun z85 bz85 => ?_)
        have bz85 : (0 ≤ z85.toInt ∧ z85.toInt ≤ 42) ∧ (((ga u77 7 0)).toInt = 0 → z85.toInt = 0) ∧ (((ga u77 7 3)).toInt = 0 → z85.toInt = 0) := bz85
        refine lv_icmp_ge (tgt := 174) hx hb dX10_mendsFrom_103 (by decide) (fun c86 => ?_) (fun c86 => ?_)
        · have c86 := cLE (x := z85) (y := y76d) (X := z85.toInt) (Y := y76d.toInt) rfl rfl c86
          exact hret _ _ _ _ _ dX10_mendsFrom_174 ⟨hI, (Un.tr Un.rf hUu77 rfl rfl rfl), hku77_0⟩ hH
        · have c86 := cNLE (x := z85) (y := y76d) (X := z85.toInt) (Y := y76d.toInt) rfl rfl c86
          refine lv_aload_n hx hb dX10_mendsFrom_106 rfl (lv_at hl 1 rfl) ?_
          refine va_get (ci := 10) (v := .ref (A 14)) (C := RX10) (T := TX10) (N := 42) hx hb hts (fun w h => uc_in w (inX10 w h)) hown hK hH.1 0 (mwc0 C A u77) rfl 26 (by decide) (hts _ (uc_in _ q_f1214)) (fun _ h9 => h9) rfl dX10_mendsFrom_107 ?_
          refine lv_aload_n hx hb dX10_mendsFrom_110 rfl (lv_at hl 1 rfl) ?_
          refine va_get (ci := 10) (v := .int (gi u77 25)) (C := RX10) (T := TX10) (N := 42) hx hb hts (fun w h => uc_in w (inX10 w h)) hown hK hH.1 0 (mwc0 C A u77) rfl 25 (by decide) (hts _ (uc_in _ q_f1213)) (fun _ h9 => h9) rfl dX10_mendsFrom_111 ?_
          refine pv_i (v := 2) hku77_0 ?_
          refine lv_iload hx hb dX10_mendsFrom_114 (lv_at hl 0 rfl) ?_
          refine lv_aload_n hx hb dX10_mendsFrom_116 rfl (lv_at hl 1 rfl) ?_
          refine cvS (n := 0) (As := []) (rest := [.int y76d, .int 2, .ref (A 14)]) ⟨hx, hb, hml, hown, hts⟩ uc_in (kX10_clocks_0 l D C A u77 hI ) q_m1464 q_n1466 q_p72 q_i11 q_c1467 hvX10_clocks ⟨(Nat.le_of_ble_eq_true rfl), (Nat.le_of_ble_eq_true rfl)⟩ ⟨(Nat.le_of_ble_eq_true rfl), (Nat.le_of_ble_eq_true rfl)⟩ hK hH.1 10 0 rfl (mwc0 C A u77) rfl hl.1 rfl (Nat.le_of_ble_eq_true rfl) dX10_mendsFrom_117 (fun r87 p88 => ?_)
          subst p88
          refine lv_idiv hx hb dX10_mendsFrom_120 (i_ne rfl (by omega)) ?_
          refine p_any (fun z89 => ?_)
          refine r_iast (j := 14) hx hb hK hH 14 1 (mwc14 C A u77) rfl (i_ix (X := 2) (by decide) (by decide) (by decide)) (mwa14 C A u77) dX10_mendsFrom_121 (fun u90 eu90 H locs hH => ?_)
          have hI := hI.pa0 eu90 (by decide) (by decide) (by decide)
          refine lv_aload_n hx hb dX10_mendsFrom_122 rfl (lv_at hl 1 rfl) ?_
          refine va_get (ci := 10) (v := .ref (A 15)) (C := RX10) (T := TX10) (N := 42) hx hb hts (fun w h => uc_in w (inX10 w h)) hown hK hH.1 0 (mwc0 C A u90) rfl 27 (by decide) (hts _ (uc_in _ q_f1215)) (fun _ h9 => h9) rfl dX10_mendsFrom_123 ?_
          refine lv_aload_n hx hb dX10_mendsFrom_126 rfl (lv_at hl 1 rfl) ?_
          refine va_get (ci := 10) (v := .int (gi u90 25)) (C := RX10) (T := TX10) (N := 42) hx hb hts (fun w h => uc_in w (inX10 w h)) hown hK hH.1 0 (mwc0 C A u90) rfl 25 (by decide) (hts _ (uc_in _ q_f1213)) (fun _ h9 => h9) rfl dX10_mendsFrom_127 ?_
          refine pv_i (v := 2) ((gi_sa eu90).trans hku77_0) ?_
          refine lv_iload hx hb dX10_mendsFrom_130 (lv_at hl 0 rfl) ?_
          refine lv_aload_n hx hb dX10_mendsFrom_132 rfl (lv_at hl 1 rfl) ?_
          refine cvS (n := 0) (As := []) (rest := [.int y76d, .int 2, .ref (A 15)]) ⟨hx, hb, hml, hown, hts⟩ uc_in (kX10_clocks_0 l D C A u90 hI ) q_m1464 q_n1466 q_p72 q_i11 q_c1467 hvX10_clocks ⟨(Nat.le_of_ble_eq_true rfl), (Nat.le_of_ble_eq_true rfl)⟩ ⟨(Nat.le_of_ble_eq_true rfl), (Nat.le_of_ble_eq_true rfl)⟩ hK hH.1 10 0 rfl (mwc0 C A u90) rfl hl.1 rfl (Nat.le_of_ble_eq_true rfl) dX10_mendsFrom_133 (fun r91 p92 => ?_)
          subst p92
          refine pv_i (v := (ga u77 7 3)) ((congrFun (ga_ne eu90 (by decide)) _).trans rfl) ?_
          refine lv_irem hx hb dX10_mendsFrom_136 (i_ne rfl (by omega)) ?_
          refine p_any (fun z93 => ?_)
          refine r_iast (j := 15) hx hb hK hH 15 1 (mwc15 C A u90) rfl (i_ix (X := 2) (by decide) (by decide) (by decide)) (mwa15 C A u90) dX10_mendsFrom_137 (fun u94 eu94 H locs hH => ?_)
          have hI := hI.pa0 eu94 (by decide) (by decide) (by decide)
          refine lv_aload_n hx hb dX10_mendsFrom_138 rfl (lv_at hl 1 rfl) ?_
          refine lv_dup hx hb dX10_mendsFrom_139 rfl ?_
          refine va_get (ci := 10) (v := .int (gi u94 25)) (C := RX10) (T := TX10) (N := 42) hx hb hts (fun w h => uc_in w (inX10 w h)) hown hK hH.1 0 (mwc0 C A u94) rfl 25 (by decide) (hts _ (uc_in _ q_f1213)) (fun _ h9 => h9) rfl dX10_mendsFrom_140 ?_
          refine pv_i (v := 2) ((gi_sa eu94).trans ((gi_sa eu90).trans hku77_0)) ?_
          refine lv_iconst (v := 1) hx hb dX10_mendsFrom_143 (by decide) ?_
          refine lv_iadd hx hb dX10_mendsFrom_144 ?_
          refine pv_i (v := 3) (by decide) ?_
          refine r_put (j := 25) (ci := 10) (C := RX10) (T := TX10) (N := 42) hx hb hts (fun w h => uc_in w (inX10 w h)) tyX10 tyX10_ok nmX10 hown hK hH 0 (mwc0 C A u94) rfl 25 (by decide) (hts _ (uc_in _ q_f1213)) (fun _ h9 => h9) rfl (by decide +kernel) (Nat.le_of_ble_eq_true rfl) (mws25 C A u94 _) dX10_mendsFrom_145 (fun u95 eu95 H locs hH => ?_)
          have hI := hI.s25 eu95 (X := 3) (by decide) (by decide) (by decide)
          refine lv_aload_n hx hb dX10_mendsFrom_148 rfl (lv_at hl 1 rfl) ?_
          refine lv_iload_n hx hb dX10_mendsFrom_149 rfl (lv_at hl 2 rfl) ?_
          refine lv_iload hx hb dX10_mendsFrom_150 (lv_at hl 0 rfl) ?_
          refine lv_iconst (v := 1) hx hb dX10_mendsFrom_152 (by decide) ?_
          refine lv_iadd hx hb dX10_mendsFrom_153 ?_
          refine p_nm (tt_add (X := y76d.toInt) (Y := 1) rfl (by decide) (by omega) (by omega)) (fun z96 hz96 => ?_)
          refine lv_iload_n hx hb dX10_mendsFrom_154 rfl (lv_at hl 3 rfl) ?_
          refine cvU (n := 3) (As := [.int a0, .int z96, .int a2]) (rest := []) ⟨hx, hb, hml, hown, hts⟩ uc_in (kX10_mendsFrom_3 l D C A u95 hI a0 A0 ha0 z96 (y76d.toInt + 1) hz96 a2 A2 ha2 (by omega) (by omega) (by omega) (by omega) (gi_si eu95) _) q_m1699 q_n1701 q_p95 q_i11 q_c1702 hvX10_mendsFrom ⟨(Nat.le_of_ble_eq_true rfl), (Nat.le_of_ble_eq_true rfl)⟩ ⟨(Nat.le_of_ble_eq_true rfl), (Nat.le_of_ble_eq_true rfl)⟩ hK hH (fun q h => Or.inr h) Bl0 (fun _ _ _ => trivial) 10 0 rfl (mwc0 C A u95) rfl hl.1 rfl (Nat.le_of_ble_eq_true rfl) dX10_mendsFrom_155 (fun u97 H locs p99 hH => ?_)
          obtain ⟨hI, hUu97, p99⟩ := p99
          refine lv_aload_n hx hb dX10_mendsFrom_158 rfl (lv_at hl 1 rfl) ?_
          refine lv_dup hx hb dX10_mendsFrom_159 rfl ?_
          refine va_get (ci := 10) (v := .int (gi u97 25)) (C := RX10) (T := TX10) (N := 42) hx hb hts (fun w h => uc_in w (inX10 w h)) hown hK hH.1 0 (mwc0 C A u97) rfl 25 (by decide) (hts _ (uc_in _ q_f1213)) (fun _ h9 => h9) rfl dX10_mendsFrom_160 ?_
          refine pv_i (v := 3) p99 ?_
          refine lv_iconst (v := 1) hx hb dX10_mendsFrom_163 (by decide) ?_
          refine lv_isub hx hb dX10_mendsFrom_164 ?_
          refine pv_i (v := 2) (by decide) ?_
          refine r_put (j := 25) (ci := 10) (C := RX10) (T := TX10) (N := 42) hx hb hts (fun w h => uc_in w (inX10 w h)) tyX10 tyX10_ok nmX10 hown hK hH 0 (mwc0 C A u97) rfl 25 (by decide) (hts _ (uc_in _ q_f1213)) (fun _ h9 => h9) rfl (by decide +kernel) (Nat.le_of_ble_eq_true rfl) (mws25 C A u97 _) dX10_mendsFrom_165 (fun u100 eu100 H locs hH => ?_)
          have hI := hI.s25 eu100 (X := 2) (by decide) (by decide) (by decide)
          obtain ⟨z101, ez101⟩ : ∃ z, z = y76d + Int32.ofInt 1 := ⟨_, rfl⟩
          have hz101 : z101.toInt = y76d.toInt + 1 := by rw [ez101]; exact tt_add rfl (by decide) (by omega) (by omega)
          refine lv_iinc (v := z101) (lv' := [(4, .int z101), (0, .ref (A 0)), (1, .int a0), (3, .int a2)]) hx hb dX10_mendsFrom_168 hl (k := 0) rfl ez101.symm (by decide) rfl (fun ls hl => ?_)
          refine lv_goto (tgt := 92) hx hb dX10_mendsFrom_171 (by decide) ?_
          exact ih92_77 ls z101 u100 _ _ (by have q9 := (show z101.toInt = (y76d.toInt + 1) from hz101); omega) (by have q9 := (show z101.toInt = (y76d.toInt + 1) from hz101); omega) (gi_si eu100) (by have q9 := (show z101.toInt = (y76d.toInt + 1) from hz101); omega) (Un.si (Un.tr (Un.si (Un.sa (Un.sa hUu77 rfl eu90) rfl eu94) rfl eu95) hUu97 rfl rfl rfl) rfl eu100) hI hH hl
    exact lp92_77 43 ls a1 u _ _ (by have q9 := (show a1.toInt = A1 from ha1); omega) (by have q9 := (show a1.toInt = A1 from ha1); omega) hn25 (by have q9 := (show a1.toInt = A1 from ha1); omega) Un.rf hI hH (lv_sub hl [0, 1, 2, 4] rfl)
  · have c1 := cEQ (x := 2) (y := a0) (X := 2) (Y := A0) (by decide) ha0 c1
    refine lv_aload_n hx hb dX10_mendsFrom_8 rfl (lv_at hl 0 rfl) ?_
    refine cvU (n := 0) (As := []) (rest := []) ⟨hx, hb, hml, hown, hts⟩ uc_in (kX10_runs_0 l D C A u hI  _) q_m1485 q_n1487 q_p76 q_i11 q_c1488 hvX10_runs ⟨(Nat.le_of_ble_eq_true rfl), (Nat.le_of_ble_eq_true rfl)⟩ ⟨(Nat.le_of_ble_eq_true rfl), (Nat.le_of_ble_eq_true rfl)⟩ hK hH (fun q h => Or.inr h) Bl0 (fun _ _ _ => trivial) 10 0 rfl (mwc0 C A u) rfl hl.1 rfl (Nat.le_of_ble_eq_true rfl) dX10_mendsFrom_9 (fun u102 H locs p104 hH => ?_)
    obtain ⟨hI, hUu102, p104⟩ := p104
    refine lv_iload_n hx hb dX10_mendsFrom_12 rfl (lv_at hl 3 rfl) ?_
    refine lv_iconst (v := (-1)) hx hb dX10_mendsFrom_13 (by decide) ?_
    have j37_121 : ∀ (ls : Array Slot) (y111d : Int32), lv_has ls 5 [(0, .ref (A 0)), (1, .int a0)] → W p l e (rmL 8 0 0) s m ar below meth c H locs 0 0 Q (F0 m 37 ls [.int y111d]) := by
      intro ls y111d hl
      refine lv_istore (lv' := [(4, .int y111d), (0, .ref (A 0)), (1, .int a0)]) hx hb dX10_mendsFrom_37 hl (by decide) rfl (fun ls hl => ?_)
      refine lv_iload hx hb dX10_mendsFrom_39 (lv_at hl 0 rfl) ?_
      refine lv_aload_n hx hb dX10_mendsFrom_41 rfl (lv_at hl 1 rfl) ?_
      refine va_get (ci := 10) (v := .int (gi u102 28)) (C := RX10) (T := TX10) (N := 42) hx hb hts (fun w h => uc_in w (inX10 w h)) hown hK hH.1 0 (mwc0 C A u102) rfl 28 (by decide) (hts _ (uc_in _ q_f1216)) (fun _ h9 => h9) rfl dX10_mendsFrom_42 ?_
      refine lv_icmp_lt (tgt := 49) hx hb dX10_mendsFrom_45 (by decide) (fun c123 => ?_) (fun c123 => ?_)
      · have c123 := cLT (x := y111d) (y := (gi u102 28)) (X := y111d.toInt) (Y := ((gi u102 28)).toInt) rfl rfl c123
        refine lv_aload_n hx hb dX10_mendsFrom_49 rfl (lv_at hl 1 rfl) ?_
        refine lv_iload hx hb dX10_mendsFrom_50 (lv_at hl 0 rfl) ?_
        refine r_put (j := 28) (ci := 10) (C := RX10) (T := TX10) (N := 42) hx hb hts (fun w h => uc_in w (inX10 w h)) tyX10 tyX10_ok nmX10 hown hK hH 0 (mwc0 C A u102) rfl 28 (by decide) (hts _ (uc_in _ q_f1216)) (fun _ h9 => h9) rfl (by decide +kernel) (Nat.le_of_ble_eq_true rfl) (mws28 C A u102 _) dX10_mendsFrom_52 (fun u124 eu124 H locs hH => ?_)
        have hI := hI.pi0 eu124 rfl
        refine lv_aload_n hx hb dX10_mendsFrom_55 rfl (lv_at hl 1 rfl) ?_
        refine lv_iload_n hx hb dX10_mendsFrom_56 rfl (lv_at hl 2 rfl) ?_
        refine r_put (j := 30) (ci := 10) (C := RX10) (T := TX10) (N := 42) hx hb hts (fun w h => uc_in w (inX10 w h)) tyX10 tyX10_ok nmX10 hown hK hH 0 (mwc0 C A u124) rfl 30 (by decide) (hts _ (uc_in _ q_f1218)) (fun _ h9 => h9) rfl (by decide +kernel) (Nat.le_of_ble_eq_true rfl) (mws30 C A u124 _) dX10_mendsFrom_57 (fun u125 eu125 H locs hH => ?_)
        have hI := hI.pi0 eu125 rfl
        refine lv_aload_n hx hb dX10_mendsFrom_60 rfl (lv_at hl 1 rfl) ?_
        refine lv_iload_n hx hb dX10_mendsFrom_61 rfl (lv_at hl 2 rfl) ?_
        refine lv_if_ne (tgt := 69) hx hb dX10_mendsFrom_62 (by decide) (fun c126 => ?_) (fun c126 => absurd (cEQ (x := a0) (y := 0) (X := A0) (Y := 0) ha0 (by decide) c126) (by omega))
        refine lv_bipush (v := 10) hx hb dX10_mendsFrom_69 (by decide) ?_
        refine lv_aload_n hx hb dX10_mendsFrom_71 rfl (lv_at hl 1 rfl) ?_
        refine va_get (ci := 10) (v := .ref (A 14)) (C := RX10) (T := TX10) (N := 42) hx hb hts (fun w h => uc_in w (inX10 w h)) hown hK hH.1 0 (mwc0 C A u125) rfl 26 (by decide) (hts _ (uc_in _ q_f1214)) (fun _ h9 => h9) rfl dX10_mendsFrom_72 ?_
        refine lv_iconst (v := 0) hx hb dX10_mendsFrom_75 (by decide) ?_
        refine va_iald hx hb hK hH.1 14 1 (mwc14 C A u125) rfl (i_ix (X := 0) (by decide) (by decide) (by decide)) dX10_mendsFrom_76 ?_
        refine p_any (fun z127 => ?_)
        refine lv_imul hx hb dX10_mendsFrom_77 ?_
        refine p_any (fun z128 => ?_)
        refine lv_aload_n hx hb dX10_mendsFrom_78 rfl (lv_at hl 1 rfl) ?_
        refine va_get (ci := 10) (v := .ref (A 15)) (C := RX10) (T := TX10) (N := 42) hx hb hts (fun w h => uc_in w (inX10 w h)) hown hK hH.1 0 (mwc0 C A u125) rfl 27 (by decide) (hts _ (uc_in _ q_f1215)) (fun _ h9 => h9) rfl dX10_mendsFrom_79 ?_
        refine lv_iconst (v := 0) hx hb dX10_mendsFrom_82 (by decide) ?_
        refine va_iald hx hb hK hH.1 15 1 (mwc15 C A u125) rfl (i_ix (X := 0) (by decide) (by decide) (by decide)) dX10_mendsFrom_83 ?_
        refine p_any (fun z129 => ?_)
        refine lv_iadd hx hb dX10_mendsFrom_84 ?_
        refine p_any (fun z130 => ?_)
        refine r_put (j := 29) (ci := 10) (C := RX10) (T := TX10) (N := 42) hx hb hts (fun w h => uc_in w (inX10 w h)) tyX10 tyX10_ok nmX10 hown hK hH 0 (mwc0 C A u125) rfl 29 (by decide) (hts _ (uc_in _ q_f1217)) (fun _ h9 => h9) rfl (by decide +kernel) (Nat.le_of_ble_eq_true rfl) (mws29 C A u125 _) dX10_mendsFrom_85 (fun u131 eu131 H locs hH => ?_)
        have hI := hI.pi0 eu131 rfl
        exact hret _ _ _ _ _ dX10_mendsFrom_88 ⟨hI, (Un.si (Un.si (Un.si (Un.tr Un.rf hUu102 rfl rfl rfl) rfl eu124) rfl eu125) rfl eu131), ((gi_ne eu131 (by decide)).trans ((gi_ne eu125 (by decide)).trans ((gi_ne eu124 (by decide)).trans ((hUu102.1 25 rfl).trans hn25))))⟩ hH
      · have c123 := cNLT (x := y111d) (y := (gi u102 28)) (X := y111d.toInt) (Y := ((gi u102 28)).toInt) rfl rfl c123
        exact hret _ _ _ _ _ dX10_mendsFrom_48 ⟨hI, (Un.tr Un.rf hUu102 rfl rfl rfl), ((hUu102.1 25 rfl).trans hn25)⟩ hH
    refine lv_icmp_ne (tgt := 24) hx hb dX10_mendsFrom_14 (by decide) (fun c105 => ?_) (fun c105 => ?_)
    · refine lv_aload_n hx hb dX10_mendsFrom_24 rfl (lv_at hl 0 rfl) ?_
      refine lv_iload_n hx hb dX10_mendsFrom_25 rfl (lv_at hl 3 rfl) ?_
      refine cvS (n := 1) (As := [.int a2]) (rest := []) ⟨hx, hb, hml, hown, hts⟩ uc_in (kX10_isBy_0 l D C A u102 hI a2 A2 ha2) q_m1678 q_n1680 q_p92 q_i11 q_c1681 hvX10_isBy ⟨(Nat.le_of_ble_eq_true rfl), (Nat.le_of_ble_eq_true rfl)⟩ ⟨(Nat.le_of_ble_eq_true rfl), (Nat.le_of_ble_eq_true rfl)⟩ hK hH.1 10 0 rfl (mwc0 C A u102) rfl hl.1 rfl (Nat.le_of_ble_eq_true rfl) dX10_mendsFrom_26 (fun r132 p133 => ?_)
      have p133 : 0 ≤ r132.toInt ∧ r132.toInt ≤ 1 := p133
      refine lv_if_eq (tgt := 36) hx hb dX10_mendsFrom_29 (by decide) (fun c134 => ?_) (fun c134 => ?_)
      · have c134 := cEQ (x := r132) (y := 0) (X := r132.toInt) (Y := 0) rfl (by decide) c134
        refine lv_iconst (v := 1) hx hb dX10_mendsFrom_36 (by decide) ?_
        exact j37_121 ls 1 (lv_sub hl [0, 1] rfl)
      · have c134 := cNE (x := r132) (y := 0) (X := r132.toInt) (Y := 0) rfl (by decide) c134
        refine lv_iconst (v := 0) hx hb dX10_mendsFrom_32 (by decide) ?_
        refine lv_goto (tgt := 37) hx hb dX10_mendsFrom_33 (by decide) ?_
        exact j37_121 ls 0 (lv_sub hl [0, 1] rfl)
    · have c105 := cEQ (x := a2) (y := (-1)) (X := A2) (Y := (-1)) ha2 (by decide) c105
      refine lv_aload_n hx hb dX10_mendsFrom_17 rfl (lv_at hl 0 rfl) ?_
      refine cvS (n := 0) (As := []) (rest := []) ⟨hx, hb, hml, hown, hts⟩ uc_in (kX10_waitAll_0 l D C A u102 hI ) q_m1558 q_n1560 q_p85 q_i11 q_c1561 hvX10_waitAll ⟨(Nat.le_of_ble_eq_true rfl), (Nat.le_of_ble_eq_true rfl)⟩ ⟨(Nat.le_of_ble_eq_true rfl), (Nat.le_of_ble_eq_true rfl)⟩ hK hH.1 10 0 rfl (mwc0 C A u102) rfl hl.1 rfl (Nat.le_of_ble_eq_true rfl) dX10_mendsFrom_18 (fun r135 p136 => ?_)
      refine lv_goto (tgt := 37) hx hb dX10_mendsFrom_21 (by decide) ?_
      exact j37_121 ls r135 (lv_sub hl [0, 1] rfl)
set_option maxHeartbeats 4000000 in
set_option maxRecDepth 100000 in
theorem kX10_mendsFrom_1 (l : Launch) (D : va_G) (C : Nat → ClassId) (A : Nat → Nat) (u : St) (hI : IM u) (a0 : Int32) (A0 : Int) (ha0 : a0.toInt = A0) (a1 : Int32) (A1 : Int) (ha1 : a1.toInt = A1) (a2 : Int32) (A2 : Int) (ha2 : a2.toInt = A2) (hl0 : 1 ≤ A0) (hm0 : A0 ≤ 3) (hl1 : 0 ≤ A1) (hm1 : A1 ≤ 42) (hn25 : gi u 25 = 1) (sz : Nat) : MetV l yX10_mendsFrom cX10_mendsFrom 5 9 [.ref (A 0), .int a0, .int a1, .int a2] D (tyl C) (mw C A) X0 u sz (fun u' => IM u' ∧ Un [(25, 25), (28, 28), (29, 29), (30, 30)] [(12, 12), (13, 13), (14, 14), (15, 15)] [] u u' ∧ gi u' 25 = 1) := by
  refine mV (by decide) (Nat.le_of_ble_eq_true rfl) ?_
  intro p e s m below meth c ls ar Q hx hb hml hown hts hK hH hX hl hret
  have hown : s.vm.findClass RX10 = some m.cls := hown
  have hl : lv_has ls 5 [(0, .ref (A 0)), (1, .int a0), (2, .int a1), (3, .int a2)] := hl
  refine lv_aload_n hx hb dX10_mendsFrom_0 rfl (lv_at hl 0 rfl) ?_
  refine va_get (ci := 10) (v := .int (gi u 25)) (C := RX10) (T := TX10) (N := 42) hx hb hts (fun w h => uc_in w (inX10 w h)) hown hK hH.1 0 (mwc0 C A u) rfl 25 (by decide) (hts _ (uc_in _ q_f1213)) (fun _ h9 => h9) rfl dX10_mendsFrom_1 ?_
  refine pv_i (v := 1) hn25 ?_
  refine lv_iload_n hx hb dX10_mendsFrom_4 rfl (lv_at hl 1 rfl) ?_
  refine lv_icmp_ne (tgt := 89) hx hb dX10_mendsFrom_5 (by decide) (fun c1 => ?_) (fun c1 => ?_)
  · have c1 := cNE (x := 1) (y := a0) (X := 1) (Y := A0) (by decide) ha0 c1
    refine lv_iload_n hx hb dX10_mendsFrom_89 rfl (lv_at hl 2 rfl) ?_
    refine lv_istore (lv' := [(4, .int a1), (0, .ref (A 0)), (1, .int a0), (2, .int a1), (3, .int a2)]) hx hb dX10_mendsFrom_90 hl (by decide) rfl (fun ls hl => ?_)
    have lp92_77 : ∀ (n92 : Nat) (ls : Array Slot) (y76d : Int32) (u77 : St) (H : Heap) (locs : List Loc), 0 ≤ y76d.toInt → y76d.toInt ≤ 42 → gi u77 25 = 1 → 42 - y76d.toInt < (n92 : Int) → Un [(25, 25), (28, 28), (29, 29), (30, 30)] [(12, 12), (13, 13), (14, 14), (15, 15)] [] u u77 → IM u77 → Hd D (mw C A) (va_A (mw C A u) s.heap.size) s.heap u77 H locs → lv_has ls 5 [(4, .int y76d), (0, .ref (A 0)), (1, .int a0), (3, .int a2)] → W p l e (rmL 9 0 0) s m ar below meth c H locs 0 0 Q (F0 m 92 ls []) := by
      intro n92
      induction n92 with
      | zero => intro ls y76d u77 H locs ly76d my76d hku77_0 hmun92 hUu77 hI hH hl; exfalso; omega
      | succ n92 ih92_77 =>
        intro ls y76d u77 H locs ly76d my76d hku77_0 hmun92 hUu77 hI hH hl
        refine lv_iload hx hb dX10_mendsFrom_92 (lv_at hl 0 rfl) ?_
        refine lv_aload_n hx hb dX10_mendsFrom_94 rfl (lv_at hl 1 rfl) ?_
        refine cvS (n := 0) (As := []) (rest := [.int y76d]) ⟨hx, hb, hml, hown, hts⟩ uc_in (kX10_days_0 l D C A u77 hI ) q_m1477 q_n1479 q_p74 q_i11 q_c1480 hvX10_days ⟨(Nat.le_of_ble_eq_true rfl), (Nat.le_of_ble_eq_true rfl)⟩ ⟨(Nat.le_of_ble_eq_true rfl), (Nat.le_of_ble_eq_true rfl)⟩ hK hH.1 10 0 rfl (mwc0 C A u77) rfl hl.1 rfl (Nat.le_of_ble_eq_true rfl) dX10_mendsFrom_95 (fun r79 p80 => ?_)
        subst p80
        have b81 : 0 ≤ ((ga u77 7 0)).toInt ∧ ((ga u77 7 0)).toInt ≤ 7 := hI.has 0
        refine lv_aload_n hx hb dX10_mendsFrom_98 rfl (lv_at hl 1 rfl) ?_
        refine cvS (n := 0) (As := []) (rest := [.int (ga u77 7 0), .int y76d]) ⟨hx, hb, hml, hown, hts⟩ uc_in (kX10_clocks_0 l D C A u77 hI ) q_m1464 q_n1466 q_p72 q_i11 q_c1467 hvX10_clocks ⟨(Nat.le_of_ble_eq_true rfl), (Nat.le_of_ble_eq_true rfl)⟩ ⟨(Nat.le_of_ble_eq_true rfl), (Nat.le_of_ble_eq_true rfl)⟩ hK hH.1 10 0 rfl (mwc0 C A u77) rfl hl.1 rfl (Nat.le_of_ble_eq_true rfl) dX10_mendsFrom_99 (fun r82 p83 => ?_)
        subst p83
        have b84 : 0 ≤ ((ga u77 7 3)).toInt ∧ ((ga u77 7 3)).toInt ≤ 6 := hI.has 3
        refine lv_imul hx hb dX10_mendsFrom_102 ?_
        refine p_bd (P := fun q => (0 ≤ q ∧ q ≤ 42) ∧ (((ga u77 7 0)).toInt = 0 → q = 0) ∧ (((ga u77 7 3)).toInt = 0 → q = 0)) (tt_mulB 7 6 42 rfl rfl (by omega) (by omega) (by omega) (by omega) (by decide) (by decide)) (fun z85 bz85 => ?_)
        have bz85 : (0 ≤ z85.toInt ∧ z85.toInt ≤ 42) ∧ (((ga u77 7 0)).toInt = 0 → z85.toInt = 0) ∧ (((ga u77 7 3)).toInt = 0 → z85.toInt = 0) := bz85
        refine lv_icmp_ge (tgt := 174) hx hb dX10_mendsFrom_103 (by decide) (fun c86 => ?_) (fun c86 => ?_)
        · have c86 := cLE (x := z85) (y := y76d) (X := z85.toInt) (Y := y76d.toInt) rfl rfl c86
          exact hret _ _ _ _ _ dX10_mendsFrom_174 ⟨hI, (Un.tr Un.rf hUu77 rfl rfl rfl), hku77_0⟩ hH
        · have c86 := cNLE (x := z85) (y := y76d) (X := z85.toInt) (Y := y76d.toInt) rfl rfl c86
          refine lv_aload_n hx hb dX10_mendsFrom_106 rfl (lv_at hl 1 rfl) ?_
          refine va_get (ci := 10) (v := .ref (A 14)) (C := RX10) (T := TX10) (N := 42) hx hb hts (fun w h => uc_in w (inX10 w h)) hown hK hH.1 0 (mwc0 C A u77) rfl 26 (by decide) (hts _ (uc_in _ q_f1214)) (fun _ h9 => h9) rfl dX10_mendsFrom_107 ?_
          refine lv_aload_n hx hb dX10_mendsFrom_110 rfl (lv_at hl 1 rfl) ?_
          refine va_get (ci := 10) (v := .int (gi u77 25)) (C := RX10) (T := TX10) (N := 42) hx hb hts (fun w h => uc_in w (inX10 w h)) hown hK hH.1 0 (mwc0 C A u77) rfl 25 (by decide) (hts _ (uc_in _ q_f1213)) (fun _ h9 => h9) rfl dX10_mendsFrom_111 ?_
          refine pv_i (v := 1) hku77_0 ?_
          refine lv_iload hx hb dX10_mendsFrom_114 (lv_at hl 0 rfl) ?_
          refine lv_aload_n hx hb dX10_mendsFrom_116 rfl (lv_at hl 1 rfl) ?_
          refine cvS (n := 0) (As := []) (rest := [.int y76d, .int 1, .ref (A 14)]) ⟨hx, hb, hml, hown, hts⟩ uc_in (kX10_clocks_0 l D C A u77 hI ) q_m1464 q_n1466 q_p72 q_i11 q_c1467 hvX10_clocks ⟨(Nat.le_of_ble_eq_true rfl), (Nat.le_of_ble_eq_true rfl)⟩ ⟨(Nat.le_of_ble_eq_true rfl), (Nat.le_of_ble_eq_true rfl)⟩ hK hH.1 10 0 rfl (mwc0 C A u77) rfl hl.1 rfl (Nat.le_of_ble_eq_true rfl) dX10_mendsFrom_117 (fun r87 p88 => ?_)
          subst p88
          refine lv_idiv hx hb dX10_mendsFrom_120 (i_ne rfl (by omega)) ?_
          refine p_any (fun z89 => ?_)
          refine r_iast (j := 14) hx hb hK hH 14 1 (mwc14 C A u77) rfl (i_ix (X := 1) (by decide) (by decide) (by decide)) (mwa14 C A u77) dX10_mendsFrom_121 (fun u90 eu90 H locs hH => ?_)
          have hI := hI.pa0 eu90 (by decide) (by decide) (by decide)
          refine lv_aload_n hx hb dX10_mendsFrom_122 rfl (lv_at hl 1 rfl) ?_
          refine va_get (ci := 10) (v := .ref (A 15)) (C := RX10) (T := TX10) (N := 42) hx hb hts (fun w h => uc_in w (inX10 w h)) hown hK hH.1 0 (mwc0 C A u90) rfl 27 (by decide) (hts _ (uc_in _ q_f1215)) (fun _ h9 => h9) rfl dX10_mendsFrom_123 ?_
          refine lv_aload_n hx hb dX10_mendsFrom_126 rfl (lv_at hl 1 rfl) ?_
          refine va_get (ci := 10) (v := .int (gi u90 25)) (C := RX10) (T := TX10) (N := 42) hx hb hts (fun w h => uc_in w (inX10 w h)) hown hK hH.1 0 (mwc0 C A u90) rfl 25 (by decide) (hts _ (uc_in _ q_f1213)) (fun _ h9 => h9) rfl dX10_mendsFrom_127 ?_
          refine pv_i (v := 1) ((gi_sa eu90).trans hku77_0) ?_
          refine lv_iload hx hb dX10_mendsFrom_130 (lv_at hl 0 rfl) ?_
          refine lv_aload_n hx hb dX10_mendsFrom_132 rfl (lv_at hl 1 rfl) ?_
          refine cvS (n := 0) (As := []) (rest := [.int y76d, .int 1, .ref (A 15)]) ⟨hx, hb, hml, hown, hts⟩ uc_in (kX10_clocks_0 l D C A u90 hI ) q_m1464 q_n1466 q_p72 q_i11 q_c1467 hvX10_clocks ⟨(Nat.le_of_ble_eq_true rfl), (Nat.le_of_ble_eq_true rfl)⟩ ⟨(Nat.le_of_ble_eq_true rfl), (Nat.le_of_ble_eq_true rfl)⟩ hK hH.1 10 0 rfl (mwc0 C A u90) rfl hl.1 rfl (Nat.le_of_ble_eq_true rfl) dX10_mendsFrom_133 (fun r91 p92 => ?_)
          subst p92
          refine pv_i (v := (ga u77 7 3)) ((congrFun (ga_ne eu90 (by decide)) _).trans rfl) ?_
          refine lv_irem hx hb dX10_mendsFrom_136 (i_ne rfl (by omega)) ?_
          refine p_any (fun z93 => ?_)
          refine r_iast (j := 15) hx hb hK hH 15 1 (mwc15 C A u90) rfl (i_ix (X := 1) (by decide) (by decide) (by decide)) (mwa15 C A u90) dX10_mendsFrom_137 (fun u94 eu94 H locs hH => ?_)
          have hI := hI.pa0 eu94 (by decide) (by decide) (by decide)
          refine lv_aload_n hx hb dX10_mendsFrom_138 rfl (lv_at hl 1 rfl) ?_
          refine lv_dup hx hb dX10_mendsFrom_139 rfl ?_
          refine va_get (ci := 10) (v := .int (gi u94 25)) (C := RX10) (T := TX10) (N := 42) hx hb hts (fun w h => uc_in w (inX10 w h)) hown hK hH.1 0 (mwc0 C A u94) rfl 25 (by decide) (hts _ (uc_in _ q_f1213)) (fun _ h9 => h9) rfl dX10_mendsFrom_140 ?_
          refine pv_i (v := 1) ((gi_sa eu94).trans ((gi_sa eu90).trans hku77_0)) ?_
          refine lv_iconst (v := 1) hx hb dX10_mendsFrom_143 (by decide) ?_
          refine lv_iadd hx hb dX10_mendsFrom_144 ?_
          refine pv_i (v := 2) (by decide) ?_
          refine r_put (j := 25) (ci := 10) (C := RX10) (T := TX10) (N := 42) hx hb hts (fun w h => uc_in w (inX10 w h)) tyX10 tyX10_ok nmX10 hown hK hH 0 (mwc0 C A u94) rfl 25 (by decide) (hts _ (uc_in _ q_f1213)) (fun _ h9 => h9) rfl (by decide +kernel) (Nat.le_of_ble_eq_true rfl) (mws25 C A u94 _) dX10_mendsFrom_145 (fun u95 eu95 H locs hH => ?_)
          have hI := hI.s25 eu95 (X := 2) (by decide) (by decide) (by decide)
          refine lv_aload_n hx hb dX10_mendsFrom_148 rfl (lv_at hl 1 rfl) ?_
          refine lv_iload_n hx hb dX10_mendsFrom_149 rfl (lv_at hl 2 rfl) ?_
          refine lv_iload hx hb dX10_mendsFrom_150 (lv_at hl 0 rfl) ?_
          refine lv_iconst (v := 1) hx hb dX10_mendsFrom_152 (by decide) ?_
          refine lv_iadd hx hb dX10_mendsFrom_153 ?_
          refine p_nm (tt_add (X := y76d.toInt) (Y := 1) rfl (by decide) (by omega) (by omega)) (fun z96 hz96 => ?_)
          refine lv_iload_n hx hb dX10_mendsFrom_154 rfl (lv_at hl 3 rfl) ?_
          refine cvU (n := 3) (As := [.int a0, .int z96, .int a2]) (rest := []) ⟨hx, hb, hml, hown, hts⟩ uc_in (kX10_mendsFrom_2 l D C A u95 hI a0 A0 ha0 z96 (y76d.toInt + 1) hz96 a2 A2 ha2 (by omega) (by omega) (by omega) (by omega) (gi_si eu95) _) q_m1699 q_n1701 q_p95 q_i11 q_c1702 hvX10_mendsFrom ⟨(Nat.le_of_ble_eq_true rfl), (Nat.le_of_ble_eq_true rfl)⟩ ⟨(Nat.le_of_ble_eq_true rfl), (Nat.le_of_ble_eq_true rfl)⟩ hK hH (fun q h => Or.inr h) Bl0 (fun _ _ _ => trivial) 10 0 rfl (mwc0 C A u95) rfl hl.1 rfl (Nat.le_of_ble_eq_true rfl) dX10_mendsFrom_155 (fun u97 H locs p99 hH => ?_)
          obtain ⟨hI, hUu97, p99⟩ := p99
          refine lv_aload_n hx hb dX10_mendsFrom_158 rfl (lv_at hl 1 rfl) ?_
          refine lv_dup hx hb dX10_mendsFrom_159 rfl ?_
          refine va_get (ci := 10) (v := .int (gi u97 25)) (C := RX10) (T := TX10) (N := 42) hx hb hts (fun w h => uc_in w (inX10 w h)) hown hK hH.1 0 (mwc0 C A u97) rfl 25 (by decide) (hts _ (uc_in _ q_f1213)) (fun _ h9 => h9) rfl dX10_mendsFrom_160 ?_
          refine pv_i (v := 2) p99 ?_
          refine lv_iconst (v := 1) hx hb dX10_mendsFrom_163 (by decide) ?_
          refine lv_isub hx hb dX10_mendsFrom_164 ?_
          refine pv_i (v := 1) (by decide) ?_
          refine r_put (j := 25) (ci := 10) (C := RX10) (T := TX10) (N := 42) hx hb hts (fun w h => uc_in w (inX10 w h)) tyX10 tyX10_ok nmX10 hown hK hH 0 (mwc0 C A u97) rfl 25 (by decide) (hts _ (uc_in _ q_f1213)) (fun _ h9 => h9) rfl (by decide +kernel) (Nat.le_of_ble_eq_true rfl) (mws25 C A u97 _) dX10_mendsFrom_165 (fun u100 eu100 H locs hH => ?_)
          have hI := hI.s25 eu100 (X := 1) (by decide) (by decide) (by decide)
          obtain ⟨z101, ez101⟩ : ∃ z, z = y76d + Int32.ofInt 1 := ⟨_, rfl⟩
          have hz101 : z101.toInt = y76d.toInt + 1 := by rw [ez101]; exact tt_add rfl (by decide) (by omega) (by omega)
          refine lv_iinc (v := z101) (lv' := [(4, .int z101), (0, .ref (A 0)), (1, .int a0), (3, .int a2)]) hx hb dX10_mendsFrom_168 hl (k := 0) rfl ez101.symm (by decide) rfl (fun ls hl => ?_)
          refine lv_goto (tgt := 92) hx hb dX10_mendsFrom_171 (by decide) ?_
          exact ih92_77 ls z101 u100 _ _ (by have q9 := (show z101.toInt = (y76d.toInt + 1) from hz101); omega) (by have q9 := (show z101.toInt = (y76d.toInt + 1) from hz101); omega) (gi_si eu100) (by have q9 := (show z101.toInt = (y76d.toInt + 1) from hz101); omega) (Un.si (Un.tr (Un.si (Un.sa (Un.sa hUu77 rfl eu90) rfl eu94) rfl eu95) hUu97 rfl rfl rfl) rfl eu100) hI hH hl
    exact lp92_77 43 ls a1 u _ _ (by have q9 := (show a1.toInt = A1 from ha1); omega) (by have q9 := (show a1.toInt = A1 from ha1); omega) hn25 (by have q9 := (show a1.toInt = A1 from ha1); omega) Un.rf hI hH (lv_sub hl [0, 1, 2, 4] rfl)
  · have c1 := cEQ (x := 1) (y := a0) (X := 1) (Y := A0) (by decide) ha0 c1
    refine lv_aload_n hx hb dX10_mendsFrom_8 rfl (lv_at hl 0 rfl) ?_
    refine cvU (n := 0) (As := []) (rest := []) ⟨hx, hb, hml, hown, hts⟩ uc_in (kX10_runs_0 l D C A u hI  _) q_m1485 q_n1487 q_p76 q_i11 q_c1488 hvX10_runs ⟨(Nat.le_of_ble_eq_true rfl), (Nat.le_of_ble_eq_true rfl)⟩ ⟨(Nat.le_of_ble_eq_true rfl), (Nat.le_of_ble_eq_true rfl)⟩ hK hH (fun q h => Or.inr h) Bl0 (fun _ _ _ => trivial) 10 0 rfl (mwc0 C A u) rfl hl.1 rfl (Nat.le_of_ble_eq_true rfl) dX10_mendsFrom_9 (fun u102 H locs p104 hH => ?_)
    obtain ⟨hI, hUu102, p104⟩ := p104
    refine lv_iload_n hx hb dX10_mendsFrom_12 rfl (lv_at hl 3 rfl) ?_
    refine lv_iconst (v := (-1)) hx hb dX10_mendsFrom_13 (by decide) ?_
    have j37_121 : ∀ (ls : Array Slot) (y111d : Int32), lv_has ls 5 [(0, .ref (A 0)), (1, .int a0)] → W p l e (rmL 9 0 0) s m ar below meth c H locs 0 0 Q (F0 m 37 ls [.int y111d]) := by
      intro ls y111d hl
      refine lv_istore (lv' := [(4, .int y111d), (0, .ref (A 0)), (1, .int a0)]) hx hb dX10_mendsFrom_37 hl (by decide) rfl (fun ls hl => ?_)
      refine lv_iload hx hb dX10_mendsFrom_39 (lv_at hl 0 rfl) ?_
      refine lv_aload_n hx hb dX10_mendsFrom_41 rfl (lv_at hl 1 rfl) ?_
      refine va_get (ci := 10) (v := .int (gi u102 28)) (C := RX10) (T := TX10) (N := 42) hx hb hts (fun w h => uc_in w (inX10 w h)) hown hK hH.1 0 (mwc0 C A u102) rfl 28 (by decide) (hts _ (uc_in _ q_f1216)) (fun _ h9 => h9) rfl dX10_mendsFrom_42 ?_
      refine lv_icmp_lt (tgt := 49) hx hb dX10_mendsFrom_45 (by decide) (fun c123 => ?_) (fun c123 => ?_)
      · have c123 := cLT (x := y111d) (y := (gi u102 28)) (X := y111d.toInt) (Y := ((gi u102 28)).toInt) rfl rfl c123
        refine lv_aload_n hx hb dX10_mendsFrom_49 rfl (lv_at hl 1 rfl) ?_
        refine lv_iload hx hb dX10_mendsFrom_50 (lv_at hl 0 rfl) ?_
        refine r_put (j := 28) (ci := 10) (C := RX10) (T := TX10) (N := 42) hx hb hts (fun w h => uc_in w (inX10 w h)) tyX10 tyX10_ok nmX10 hown hK hH 0 (mwc0 C A u102) rfl 28 (by decide) (hts _ (uc_in _ q_f1216)) (fun _ h9 => h9) rfl (by decide +kernel) (Nat.le_of_ble_eq_true rfl) (mws28 C A u102 _) dX10_mendsFrom_52 (fun u124 eu124 H locs hH => ?_)
        have hI := hI.pi0 eu124 rfl
        refine lv_aload_n hx hb dX10_mendsFrom_55 rfl (lv_at hl 1 rfl) ?_
        refine lv_iload_n hx hb dX10_mendsFrom_56 rfl (lv_at hl 2 rfl) ?_
        refine r_put (j := 30) (ci := 10) (C := RX10) (T := TX10) (N := 42) hx hb hts (fun w h => uc_in w (inX10 w h)) tyX10 tyX10_ok nmX10 hown hK hH 0 (mwc0 C A u124) rfl 30 (by decide) (hts _ (uc_in _ q_f1218)) (fun _ h9 => h9) rfl (by decide +kernel) (Nat.le_of_ble_eq_true rfl) (mws30 C A u124 _) dX10_mendsFrom_57 (fun u125 eu125 H locs hH => ?_)
        have hI := hI.pi0 eu125 rfl
        refine lv_aload_n hx hb dX10_mendsFrom_60 rfl (lv_at hl 1 rfl) ?_
        refine lv_iload_n hx hb dX10_mendsFrom_61 rfl (lv_at hl 2 rfl) ?_
        refine lv_if_ne (tgt := 69) hx hb dX10_mendsFrom_62 (by decide) (fun c126 => ?_) (fun c126 => absurd (cEQ (x := a0) (y := 0) (X := A0) (Y := 0) ha0 (by decide) c126) (by omega))
        refine lv_bipush (v := 10) hx hb dX10_mendsFrom_69 (by decide) ?_
        refine lv_aload_n hx hb dX10_mendsFrom_71 rfl (lv_at hl 1 rfl) ?_
        refine va_get (ci := 10) (v := .ref (A 14)) (C := RX10) (T := TX10) (N := 42) hx hb hts (fun w h => uc_in w (inX10 w h)) hown hK hH.1 0 (mwc0 C A u125) rfl 26 (by decide) (hts _ (uc_in _ q_f1214)) (fun _ h9 => h9) rfl dX10_mendsFrom_72 ?_
        refine lv_iconst (v := 0) hx hb dX10_mendsFrom_75 (by decide) ?_
        refine va_iald hx hb hK hH.1 14 1 (mwc14 C A u125) rfl (i_ix (X := 0) (by decide) (by decide) (by decide)) dX10_mendsFrom_76 ?_
        refine p_any (fun z127 => ?_)
        refine lv_imul hx hb dX10_mendsFrom_77 ?_
        refine p_any (fun z128 => ?_)
        refine lv_aload_n hx hb dX10_mendsFrom_78 rfl (lv_at hl 1 rfl) ?_
        refine va_get (ci := 10) (v := .ref (A 15)) (C := RX10) (T := TX10) (N := 42) hx hb hts (fun w h => uc_in w (inX10 w h)) hown hK hH.1 0 (mwc0 C A u125) rfl 27 (by decide) (hts _ (uc_in _ q_f1215)) (fun _ h9 => h9) rfl dX10_mendsFrom_79 ?_
        refine lv_iconst (v := 0) hx hb dX10_mendsFrom_82 (by decide) ?_
        refine va_iald hx hb hK hH.1 15 1 (mwc15 C A u125) rfl (i_ix (X := 0) (by decide) (by decide) (by decide)) dX10_mendsFrom_83 ?_
        refine p_any (fun z129 => ?_)
        refine lv_iadd hx hb dX10_mendsFrom_84 ?_
        refine p_any (fun z130 => ?_)
        refine r_put (j := 29) (ci := 10) (C := RX10) (T := TX10) (N := 42) hx hb hts (fun w h => uc_in w (inX10 w h)) tyX10 tyX10_ok nmX10 hown hK hH 0 (mwc0 C A u125) rfl 29 (by decide) (hts _ (uc_in _ q_f1217)) (fun _ h9 => h9) rfl (by decide +kernel) (Nat.le_of_ble_eq_true rfl) (mws29 C A u125 _) dX10_mendsFrom_85 (fun u131 eu131 H locs hH => ?_)
        have hI := hI.pi0 eu131 rfl
        exact hret _ _ _ _ _ dX10_mendsFrom_88 ⟨hI, (Un.si (Un.si (Un.si (Un.tr Un.rf hUu102 rfl rfl rfl) rfl eu124) rfl eu125) rfl eu131), ((gi_ne eu131 (by decide)).trans ((gi_ne eu125 (by decide)).trans ((gi_ne eu124 (by decide)).trans ((hUu102.1 25 rfl).trans hn25))))⟩ hH
      · have c123 := cNLT (x := y111d) (y := (gi u102 28)) (X := y111d.toInt) (Y := ((gi u102 28)).toInt) rfl rfl c123
        exact hret _ _ _ _ _ dX10_mendsFrom_48 ⟨hI, (Un.tr Un.rf hUu102 rfl rfl rfl), ((hUu102.1 25 rfl).trans hn25)⟩ hH
    refine lv_icmp_ne (tgt := 24) hx hb dX10_mendsFrom_14 (by decide) (fun c105 => ?_) (fun c105 => ?_)
    · refine lv_aload_n hx hb dX10_mendsFrom_24 rfl (lv_at hl 0 rfl) ?_
      refine lv_iload_n hx hb dX10_mendsFrom_25 rfl (lv_at hl 3 rfl) ?_
      refine cvS (n := 1) (As := [.int a2]) (rest := []) ⟨hx, hb, hml, hown, hts⟩ uc_in (kX10_isBy_0 l D C A u102 hI a2 A2 ha2) q_m1678 q_n1680 q_p92 q_i11 q_c1681 hvX10_isBy ⟨(Nat.le_of_ble_eq_true rfl), (Nat.le_of_ble_eq_true rfl)⟩ ⟨(Nat.le_of_ble_eq_true rfl), (Nat.le_of_ble_eq_true rfl)⟩ hK hH.1 10 0 rfl (mwc0 C A u102) rfl hl.1 rfl (Nat.le_of_ble_eq_true rfl) dX10_mendsFrom_26 (fun r132 p133 => ?_)
      have p133 : 0 ≤ r132.toInt ∧ r132.toInt ≤ 1 := p133
      refine lv_if_eq (tgt := 36) hx hb dX10_mendsFrom_29 (by decide) (fun c134 => ?_) (fun c134 => ?_)
      · have c134 := cEQ (x := r132) (y := 0) (X := r132.toInt) (Y := 0) rfl (by decide) c134
        refine lv_iconst (v := 1) hx hb dX10_mendsFrom_36 (by decide) ?_
        exact j37_121 ls 1 (lv_sub hl [0, 1] rfl)
      · have c134 := cNE (x := r132) (y := 0) (X := r132.toInt) (Y := 0) rfl (by decide) c134
        refine lv_iconst (v := 0) hx hb dX10_mendsFrom_32 (by decide) ?_
        refine lv_goto (tgt := 37) hx hb dX10_mendsFrom_33 (by decide) ?_
        exact j37_121 ls 0 (lv_sub hl [0, 1] rfl)
    · have c105 := cEQ (x := a2) (y := (-1)) (X := A2) (Y := (-1)) ha2 (by decide) c105
      refine lv_aload_n hx hb dX10_mendsFrom_17 rfl (lv_at hl 0 rfl) ?_
      refine cvS (n := 0) (As := []) (rest := []) ⟨hx, hb, hml, hown, hts⟩ uc_in (kX10_waitAll_0 l D C A u102 hI ) q_m1558 q_n1560 q_p85 q_i11 q_c1561 hvX10_waitAll ⟨(Nat.le_of_ble_eq_true rfl), (Nat.le_of_ble_eq_true rfl)⟩ ⟨(Nat.le_of_ble_eq_true rfl), (Nat.le_of_ble_eq_true rfl)⟩ hK hH.1 10 0 rfl (mwc0 C A u102) rfl hl.1 rfl (Nat.le_of_ble_eq_true rfl) dX10_mendsFrom_18 (fun r135 p136 => ?_)
      refine lv_goto (tgt := 37) hx hb dX10_mendsFrom_21 (by decide) ?_
      exact j37_121 ls r135 (lv_sub hl [0, 1] rfl)
set_option maxHeartbeats 4000000 in
set_option maxRecDepth 100000 in
theorem kX10_mendsFrom_0 (l : Launch) (D : va_G) (C : Nat → ClassId) (A : Nat → Nat) (u : St) (hI : IM u) (a0 : Int32) (A0 : Int) (ha0 : a0.toInt = A0) (a1 : Int32) (A1 : Int) (ha1 : a1.toInt = A1) (a2 : Int32) (A2 : Int) (ha2 : a2.toInt = A2) (hl0 : 0 ≤ A0) (hm0 : A0 ≤ 3) (hl1 : 0 ≤ A1) (hm1 : A1 ≤ 42) (hn25 : gi u 25 = 0) (sz : Nat) : MetV l yX10_mendsFrom cX10_mendsFrom 5 10 [.ref (A 0), .int a0, .int a1, .int a2] D (tyl C) (mw C A) X0 u sz (fun u' => IM u' ∧ Un [(25, 25), (28, 28), (29, 29), (30, 30)] [(12, 12), (13, 13), (14, 14), (15, 15)] [] u u' ∧ gi u' 25 = 0) := by
  refine mV (by decide) (Nat.le_of_ble_eq_true rfl) ?_
  intro p e s m below meth c ls ar Q hx hb hml hown hts hK hH hX hl hret
  have hown : s.vm.findClass RX10 = some m.cls := hown
  have hl : lv_has ls 5 [(0, .ref (A 0)), (1, .int a0), (2, .int a1), (3, .int a2)] := hl
  refine lv_aload_n hx hb dX10_mendsFrom_0 rfl (lv_at hl 0 rfl) ?_
  refine va_get (ci := 10) (v := .int (gi u 25)) (C := RX10) (T := TX10) (N := 42) hx hb hts (fun w h => uc_in w (inX10 w h)) hown hK hH.1 0 (mwc0 C A u) rfl 25 (by decide) (hts _ (uc_in _ q_f1213)) (fun _ h9 => h9) rfl dX10_mendsFrom_1 ?_
  refine pv_i (v := 0) hn25 ?_
  refine lv_iload_n hx hb dX10_mendsFrom_4 rfl (lv_at hl 1 rfl) ?_
  refine lv_icmp_ne (tgt := 89) hx hb dX10_mendsFrom_5 (by decide) (fun c1 => ?_) (fun c1 => ?_)
  · have c1 := cNE (x := 0) (y := a0) (X := 0) (Y := A0) (by decide) ha0 c1
    refine lv_iload_n hx hb dX10_mendsFrom_89 rfl (lv_at hl 2 rfl) ?_
    refine lv_istore (lv' := [(4, .int a1), (0, .ref (A 0)), (1, .int a0), (2, .int a1), (3, .int a2)]) hx hb dX10_mendsFrom_90 hl (by decide) rfl (fun ls hl => ?_)
    have lp92_77 : ∀ (n92 : Nat) (ls : Array Slot) (y76d : Int32) (u77 : St) (H : Heap) (locs : List Loc), 0 ≤ y76d.toInt → y76d.toInt ≤ 42 → gi u77 25 = 0 → 42 - y76d.toInt < (n92 : Int) → Un [(25, 25), (28, 28), (29, 29), (30, 30)] [(12, 12), (13, 13), (14, 14), (15, 15)] [] u u77 → IM u77 → Hd D (mw C A) (va_A (mw C A u) s.heap.size) s.heap u77 H locs → lv_has ls 5 [(4, .int y76d), (0, .ref (A 0)), (1, .int a0), (3, .int a2)] → W p l e (rmL 10 0 0) s m ar below meth c H locs 0 0 Q (F0 m 92 ls []) := by
      intro n92
      induction n92 with
      | zero => intro ls y76d u77 H locs ly76d my76d hku77_0 hmun92 hUu77 hI hH hl; exfalso; omega
      | succ n92 ih92_77 =>
        intro ls y76d u77 H locs ly76d my76d hku77_0 hmun92 hUu77 hI hH hl
        refine lv_iload hx hb dX10_mendsFrom_92 (lv_at hl 0 rfl) ?_
        refine lv_aload_n hx hb dX10_mendsFrom_94 rfl (lv_at hl 1 rfl) ?_
        refine cvS (n := 0) (As := []) (rest := [.int y76d]) ⟨hx, hb, hml, hown, hts⟩ uc_in (kX10_days_0 l D C A u77 hI ) q_m1477 q_n1479 q_p74 q_i11 q_c1480 hvX10_days ⟨(Nat.le_of_ble_eq_true rfl), (Nat.le_of_ble_eq_true rfl)⟩ ⟨(Nat.le_of_ble_eq_true rfl), (Nat.le_of_ble_eq_true rfl)⟩ hK hH.1 10 0 rfl (mwc0 C A u77) rfl hl.1 rfl (Nat.le_of_ble_eq_true rfl) dX10_mendsFrom_95 (fun r79 p80 => ?_)
        subst p80
        have b81 : 0 ≤ ((ga u77 7 0)).toInt ∧ ((ga u77 7 0)).toInt ≤ 7 := hI.has 0
        refine lv_aload_n hx hb dX10_mendsFrom_98 rfl (lv_at hl 1 rfl) ?_
        refine cvS (n := 0) (As := []) (rest := [.int (ga u77 7 0), .int y76d]) ⟨hx, hb, hml, hown, hts⟩ uc_in (kX10_clocks_0 l D C A u77 hI ) q_m1464 q_n1466 q_p72 q_i11 q_c1467 hvX10_clocks ⟨(Nat.le_of_ble_eq_true rfl), (Nat.le_of_ble_eq_true rfl)⟩ ⟨(Nat.le_of_ble_eq_true rfl), (Nat.le_of_ble_eq_true rfl)⟩ hK hH.1 10 0 rfl (mwc0 C A u77) rfl hl.1 rfl (Nat.le_of_ble_eq_true rfl) dX10_mendsFrom_99 (fun r82 p83 => ?_)
        subst p83
        have b84 : 0 ≤ ((ga u77 7 3)).toInt ∧ ((ga u77 7 3)).toInt ≤ 6 := hI.has 3
        refine lv_imul hx hb dX10_mendsFrom_102 ?_
        refine p_bd (P := fun q => (0 ≤ q ∧ q ≤ 42) ∧ (((ga u77 7 0)).toInt = 0 → q = 0) ∧ (((ga u77 7 3)).toInt = 0 → q = 0)) (tt_mulB 7 6 42 rfl rfl (by omega) (by omega) (by omega) (by omega) (by decide) (by decide)) (fun z85 bz85 => ?_)
        have bz85 : (0 ≤ z85.toInt ∧ z85.toInt ≤ 42) ∧ (((ga u77 7 0)).toInt = 0 → z85.toInt = 0) ∧ (((ga u77 7 3)).toInt = 0 → z85.toInt = 0) := bz85
        refine lv_icmp_ge (tgt := 174) hx hb dX10_mendsFrom_103 (by decide) (fun c86 => ?_) (fun c86 => ?_)
        · have c86 := cLE (x := z85) (y := y76d) (X := z85.toInt) (Y := y76d.toInt) rfl rfl c86
          exact hret _ _ _ _ _ dX10_mendsFrom_174 ⟨hI, (Un.tr Un.rf hUu77 rfl rfl rfl), hku77_0⟩ hH
        · have c86 := cNLE (x := z85) (y := y76d) (X := z85.toInt) (Y := y76d.toInt) rfl rfl c86
          refine lv_aload_n hx hb dX10_mendsFrom_106 rfl (lv_at hl 1 rfl) ?_
          refine va_get (ci := 10) (v := .ref (A 14)) (C := RX10) (T := TX10) (N := 42) hx hb hts (fun w h => uc_in w (inX10 w h)) hown hK hH.1 0 (mwc0 C A u77) rfl 26 (by decide) (hts _ (uc_in _ q_f1214)) (fun _ h9 => h9) rfl dX10_mendsFrom_107 ?_
          refine lv_aload_n hx hb dX10_mendsFrom_110 rfl (lv_at hl 1 rfl) ?_
          refine va_get (ci := 10) (v := .int (gi u77 25)) (C := RX10) (T := TX10) (N := 42) hx hb hts (fun w h => uc_in w (inX10 w h)) hown hK hH.1 0 (mwc0 C A u77) rfl 25 (by decide) (hts _ (uc_in _ q_f1213)) (fun _ h9 => h9) rfl dX10_mendsFrom_111 ?_
          refine pv_i (v := 0) hku77_0 ?_
          refine lv_iload hx hb dX10_mendsFrom_114 (lv_at hl 0 rfl) ?_
          refine lv_aload_n hx hb dX10_mendsFrom_116 rfl (lv_at hl 1 rfl) ?_
          refine cvS (n := 0) (As := []) (rest := [.int y76d, .int 0, .ref (A 14)]) ⟨hx, hb, hml, hown, hts⟩ uc_in (kX10_clocks_0 l D C A u77 hI ) q_m1464 q_n1466 q_p72 q_i11 q_c1467 hvX10_clocks ⟨(Nat.le_of_ble_eq_true rfl), (Nat.le_of_ble_eq_true rfl)⟩ ⟨(Nat.le_of_ble_eq_true rfl), (Nat.le_of_ble_eq_true rfl)⟩ hK hH.1 10 0 rfl (mwc0 C A u77) rfl hl.1 rfl (Nat.le_of_ble_eq_true rfl) dX10_mendsFrom_117 (fun r87 p88 => ?_)
          subst p88
          refine lv_idiv hx hb dX10_mendsFrom_120 (i_ne rfl (by omega)) ?_
          refine p_any (fun z89 => ?_)
          refine r_iast (j := 14) hx hb hK hH 14 1 (mwc14 C A u77) rfl (i_ix (X := 0) (by decide) (by decide) (by decide)) (mwa14 C A u77) dX10_mendsFrom_121 (fun u90 eu90 H locs hH => ?_)
          have hI := hI.pa0 eu90 (by decide) (by decide) (by decide)
          refine lv_aload_n hx hb dX10_mendsFrom_122 rfl (lv_at hl 1 rfl) ?_
          refine va_get (ci := 10) (v := .ref (A 15)) (C := RX10) (T := TX10) (N := 42) hx hb hts (fun w h => uc_in w (inX10 w h)) hown hK hH.1 0 (mwc0 C A u90) rfl 27 (by decide) (hts _ (uc_in _ q_f1215)) (fun _ h9 => h9) rfl dX10_mendsFrom_123 ?_
          refine lv_aload_n hx hb dX10_mendsFrom_126 rfl (lv_at hl 1 rfl) ?_
          refine va_get (ci := 10) (v := .int (gi u90 25)) (C := RX10) (T := TX10) (N := 42) hx hb hts (fun w h => uc_in w (inX10 w h)) hown hK hH.1 0 (mwc0 C A u90) rfl 25 (by decide) (hts _ (uc_in _ q_f1213)) (fun _ h9 => h9) rfl dX10_mendsFrom_127 ?_
          refine pv_i (v := 0) ((gi_sa eu90).trans hku77_0) ?_
          refine lv_iload hx hb dX10_mendsFrom_130 (lv_at hl 0 rfl) ?_
          refine lv_aload_n hx hb dX10_mendsFrom_132 rfl (lv_at hl 1 rfl) ?_
          refine cvS (n := 0) (As := []) (rest := [.int y76d, .int 0, .ref (A 15)]) ⟨hx, hb, hml, hown, hts⟩ uc_in (kX10_clocks_0 l D C A u90 hI ) q_m1464 q_n1466 q_p72 q_i11 q_c1467 hvX10_clocks ⟨(Nat.le_of_ble_eq_true rfl), (Nat.le_of_ble_eq_true rfl)⟩ ⟨(Nat.le_of_ble_eq_true rfl), (Nat.le_of_ble_eq_true rfl)⟩ hK hH.1 10 0 rfl (mwc0 C A u90) rfl hl.1 rfl (Nat.le_of_ble_eq_true rfl) dX10_mendsFrom_133 (fun r91 p92 => ?_)
          subst p92
          refine pv_i (v := (ga u77 7 3)) ((congrFun (ga_ne eu90 (by decide)) _).trans rfl) ?_
          refine lv_irem hx hb dX10_mendsFrom_136 (i_ne rfl (by omega)) ?_
          refine p_any (fun z93 => ?_)
          refine r_iast (j := 15) hx hb hK hH 15 1 (mwc15 C A u90) rfl (i_ix (X := 0) (by decide) (by decide) (by decide)) (mwa15 C A u90) dX10_mendsFrom_137 (fun u94 eu94 H locs hH => ?_)
          have hI := hI.pa0 eu94 (by decide) (by decide) (by decide)
          refine lv_aload_n hx hb dX10_mendsFrom_138 rfl (lv_at hl 1 rfl) ?_
          refine lv_dup hx hb dX10_mendsFrom_139 rfl ?_
          refine va_get (ci := 10) (v := .int (gi u94 25)) (C := RX10) (T := TX10) (N := 42) hx hb hts (fun w h => uc_in w (inX10 w h)) hown hK hH.1 0 (mwc0 C A u94) rfl 25 (by decide) (hts _ (uc_in _ q_f1213)) (fun _ h9 => h9) rfl dX10_mendsFrom_140 ?_
          refine pv_i (v := 0) ((gi_sa eu94).trans ((gi_sa eu90).trans hku77_0)) ?_
          refine lv_iconst (v := 1) hx hb dX10_mendsFrom_143 (by decide) ?_
          refine lv_iadd hx hb dX10_mendsFrom_144 ?_
          refine pv_i (v := 1) (by decide) ?_
          refine r_put (j := 25) (ci := 10) (C := RX10) (T := TX10) (N := 42) hx hb hts (fun w h => uc_in w (inX10 w h)) tyX10 tyX10_ok nmX10 hown hK hH 0 (mwc0 C A u94) rfl 25 (by decide) (hts _ (uc_in _ q_f1213)) (fun _ h9 => h9) rfl (by decide +kernel) (Nat.le_of_ble_eq_true rfl) (mws25 C A u94 _) dX10_mendsFrom_145 (fun u95 eu95 H locs hH => ?_)
          have hI := hI.s25 eu95 (X := 1) (by decide) (by decide) (by decide)
          refine lv_aload_n hx hb dX10_mendsFrom_148 rfl (lv_at hl 1 rfl) ?_
          refine lv_iload_n hx hb dX10_mendsFrom_149 rfl (lv_at hl 2 rfl) ?_
          refine lv_iload hx hb dX10_mendsFrom_150 (lv_at hl 0 rfl) ?_
          refine lv_iconst (v := 1) hx hb dX10_mendsFrom_152 (by decide) ?_
          refine lv_iadd hx hb dX10_mendsFrom_153 ?_
          refine p_nm (tt_add (X := y76d.toInt) (Y := 1) rfl (by decide) (by omega) (by omega)) (fun z96 hz96 => ?_)
          refine lv_iload_n hx hb dX10_mendsFrom_154 rfl (lv_at hl 3 rfl) ?_
          refine cvU (n := 3) (As := [.int a0, .int z96, .int a2]) (rest := []) ⟨hx, hb, hml, hown, hts⟩ uc_in (kX10_mendsFrom_1 l D C A u95 hI a0 A0 ha0 z96 (y76d.toInt + 1) hz96 a2 A2 ha2 (by omega) (by omega) (by omega) (by omega) (gi_si eu95) _) q_m1699 q_n1701 q_p95 q_i11 q_c1702 hvX10_mendsFrom ⟨(Nat.le_of_ble_eq_true rfl), (Nat.le_of_ble_eq_true rfl)⟩ ⟨(Nat.le_of_ble_eq_true rfl), (Nat.le_of_ble_eq_true rfl)⟩ hK hH (fun q h => Or.inr h) Bl0 (fun _ _ _ => trivial) 10 0 rfl (mwc0 C A u95) rfl hl.1 rfl (Nat.le_of_ble_eq_true rfl) dX10_mendsFrom_155 (fun u97 H locs p99 hH => ?_)
          obtain ⟨hI, hUu97, p99⟩ := p99
          refine lv_aload_n hx hb dX10_mendsFrom_158 rfl (lv_at hl 1 rfl) ?_
          refine lv_dup hx hb dX10_mendsFrom_159 rfl ?_
          refine va_get (ci := 10) (v := .int (gi u97 25)) (C := RX10) (T := TX10) (N := 42) hx hb hts (fun w h => uc_in w (inX10 w h)) hown hK hH.1 0 (mwc0 C A u97) rfl 25 (by decide) (hts _ (uc_in _ q_f1213)) (fun _ h9 => h9) rfl dX10_mendsFrom_160 ?_
          refine pv_i (v := 1) p99 ?_
          refine lv_iconst (v := 1) hx hb dX10_mendsFrom_163 (by decide) ?_
          refine lv_isub hx hb dX10_mendsFrom_164 ?_
          refine pv_i (v := 0) (by decide) ?_
          refine r_put (j := 25) (ci := 10) (C := RX10) (T := TX10) (N := 42) hx hb hts (fun w h => uc_in w (inX10 w h)) tyX10 tyX10_ok nmX10 hown hK hH 0 (mwc0 C A u97) rfl 25 (by decide) (hts _ (uc_in _ q_f1213)) (fun _ h9 => h9) rfl (by decide +kernel) (Nat.le_of_ble_eq_true rfl) (mws25 C A u97 _) dX10_mendsFrom_165 (fun u100 eu100 H locs hH => ?_)
          have hI := hI.s25 eu100 (X := 0) (by decide) (by decide) (by decide)
          obtain ⟨z101, ez101⟩ : ∃ z, z = y76d + Int32.ofInt 1 := ⟨_, rfl⟩
          have hz101 : z101.toInt = y76d.toInt + 1 := by rw [ez101]; exact tt_add rfl (by decide) (by omega) (by omega)
          refine lv_iinc (v := z101) (lv' := [(4, .int z101), (0, .ref (A 0)), (1, .int a0), (3, .int a2)]) hx hb dX10_mendsFrom_168 hl (k := 0) rfl ez101.symm (by decide) rfl (fun ls hl => ?_)
          refine lv_goto (tgt := 92) hx hb dX10_mendsFrom_171 (by decide) ?_
          exact ih92_77 ls z101 u100 _ _ (by have q9 := (show z101.toInt = (y76d.toInt + 1) from hz101); omega) (by have q9 := (show z101.toInt = (y76d.toInt + 1) from hz101); omega) (gi_si eu100) (by have q9 := (show z101.toInt = (y76d.toInt + 1) from hz101); omega) (Un.si (Un.tr (Un.si (Un.sa (Un.sa hUu77 rfl eu90) rfl eu94) rfl eu95) hUu97 rfl rfl rfl) rfl eu100) hI hH hl
    exact lp92_77 43 ls a1 u _ _ (by have q9 := (show a1.toInt = A1 from ha1); omega) (by have q9 := (show a1.toInt = A1 from ha1); omega) hn25 (by have q9 := (show a1.toInt = A1 from ha1); omega) Un.rf hI hH (lv_sub hl [0, 1, 2, 4] rfl)
  · have c1 := cEQ (x := 0) (y := a0) (X := 0) (Y := A0) (by decide) ha0 c1
    refine lv_aload_n hx hb dX10_mendsFrom_8 rfl (lv_at hl 0 rfl) ?_
    refine cvU (n := 0) (As := []) (rest := []) ⟨hx, hb, hml, hown, hts⟩ uc_in (kX10_runs_0 l D C A u hI  _) q_m1485 q_n1487 q_p76 q_i11 q_c1488 hvX10_runs ⟨(Nat.le_of_ble_eq_true rfl), (Nat.le_of_ble_eq_true rfl)⟩ ⟨(Nat.le_of_ble_eq_true rfl), (Nat.le_of_ble_eq_true rfl)⟩ hK hH (fun q h => Or.inr h) Bl0 (fun _ _ _ => trivial) 10 0 rfl (mwc0 C A u) rfl hl.1 rfl (Nat.le_of_ble_eq_true rfl) dX10_mendsFrom_9 (fun u102 H locs p104 hH => ?_)
    obtain ⟨hI, hUu102, p104⟩ := p104
    refine lv_iload_n hx hb dX10_mendsFrom_12 rfl (lv_at hl 3 rfl) ?_
    refine lv_iconst (v := (-1)) hx hb dX10_mendsFrom_13 (by decide) ?_
    have j37_117 : ∀ (ls : Array Slot) (y111d : Int32), lv_has ls 5 [(0, .ref (A 0)), (1, .int a0)] → W p l e (rmL 10 0 0) s m ar below meth c H locs 0 0 Q (F0 m 37 ls [.int y111d]) := by
      intro ls y111d hl
      refine lv_istore (lv' := [(4, .int y111d), (0, .ref (A 0)), (1, .int a0)]) hx hb dX10_mendsFrom_37 hl (by decide) rfl (fun ls hl => ?_)
      refine lv_iload hx hb dX10_mendsFrom_39 (lv_at hl 0 rfl) ?_
      refine lv_aload_n hx hb dX10_mendsFrom_41 rfl (lv_at hl 1 rfl) ?_
      refine va_get (ci := 10) (v := .int (gi u102 28)) (C := RX10) (T := TX10) (N := 42) hx hb hts (fun w h => uc_in w (inX10 w h)) hown hK hH.1 0 (mwc0 C A u102) rfl 28 (by decide) (hts _ (uc_in _ q_f1216)) (fun _ h9 => h9) rfl dX10_mendsFrom_42 ?_
      refine lv_icmp_lt (tgt := 49) hx hb dX10_mendsFrom_45 (by decide) (fun c119 => ?_) (fun c119 => ?_)
      · have c119 := cLT (x := y111d) (y := (gi u102 28)) (X := y111d.toInt) (Y := ((gi u102 28)).toInt) rfl rfl c119
        refine lv_aload_n hx hb dX10_mendsFrom_49 rfl (lv_at hl 1 rfl) ?_
        refine lv_iload hx hb dX10_mendsFrom_50 (lv_at hl 0 rfl) ?_
        refine r_put (j := 28) (ci := 10) (C := RX10) (T := TX10) (N := 42) hx hb hts (fun w h => uc_in w (inX10 w h)) tyX10 tyX10_ok nmX10 hown hK hH 0 (mwc0 C A u102) rfl 28 (by decide) (hts _ (uc_in _ q_f1216)) (fun _ h9 => h9) rfl (by decide +kernel) (Nat.le_of_ble_eq_true rfl) (mws28 C A u102 _) dX10_mendsFrom_52 (fun u120 eu120 H locs hH => ?_)
        have hI := hI.pi0 eu120 rfl
        refine lv_aload_n hx hb dX10_mendsFrom_55 rfl (lv_at hl 1 rfl) ?_
        refine lv_iload_n hx hb dX10_mendsFrom_56 rfl (lv_at hl 2 rfl) ?_
        refine r_put (j := 30) (ci := 10) (C := RX10) (T := TX10) (N := 42) hx hb hts (fun w h => uc_in w (inX10 w h)) tyX10 tyX10_ok nmX10 hown hK hH 0 (mwc0 C A u120) rfl 30 (by decide) (hts _ (uc_in _ q_f1218)) (fun _ h9 => h9) rfl (by decide +kernel) (Nat.le_of_ble_eq_true rfl) (mws30 C A u120 _) dX10_mendsFrom_57 (fun u121 eu121 H locs hH => ?_)
        have hI := hI.pi0 eu121 rfl
        refine lv_aload_n hx hb dX10_mendsFrom_60 rfl (lv_at hl 1 rfl) ?_
        refine lv_iload_n hx hb dX10_mendsFrom_61 rfl (lv_at hl 2 rfl) ?_
        refine lv_if_ne (tgt := 69) hx hb dX10_mendsFrom_62 (by decide) (fun c122 => absurd (cNE (x := a0) (y := 0) (X := A0) (Y := 0) ha0 (by decide) c122) (by omega)) (fun c122 => ?_)
        have c122 := cEQ (x := a0) (y := 0) (X := A0) (Y := 0) ha0 (by decide) c122
        refine lv_iconst (v := (-1)) hx hb dX10_mendsFrom_65 (by decide) ?_
        refine lv_goto (tgt := 85) hx hb dX10_mendsFrom_66 (by decide) ?_
        refine r_put (j := 29) (ci := 10) (C := RX10) (T := TX10) (N := 42) hx hb hts (fun w h => uc_in w (inX10 w h)) tyX10 tyX10_ok nmX10 hown hK hH 0 (mwc0 C A u121) rfl 29 (by decide) (hts _ (uc_in _ q_f1217)) (fun _ h9 => h9) rfl (by decide +kernel) (Nat.le_of_ble_eq_true rfl) (mws29 C A u121 _) dX10_mendsFrom_85 (fun u123 eu123 H locs hH => ?_)
        have hI := hI.pi0 eu123 rfl
        exact hret _ _ _ _ _ dX10_mendsFrom_88 ⟨hI, (Un.si (Un.si (Un.si (Un.tr Un.rf hUu102 rfl rfl rfl) rfl eu120) rfl eu121) rfl eu123), ((gi_ne eu123 (by decide)).trans ((gi_ne eu121 (by decide)).trans ((gi_ne eu120 (by decide)).trans ((hUu102.1 25 rfl).trans hn25))))⟩ hH
      · have c119 := cNLT (x := y111d) (y := (gi u102 28)) (X := y111d.toInt) (Y := ((gi u102 28)).toInt) rfl rfl c119
        exact hret _ _ _ _ _ dX10_mendsFrom_48 ⟨hI, (Un.tr Un.rf hUu102 rfl rfl rfl), ((hUu102.1 25 rfl).trans hn25)⟩ hH
    refine lv_icmp_ne (tgt := 24) hx hb dX10_mendsFrom_14 (by decide) (fun c105 => ?_) (fun c105 => ?_)
    · refine lv_aload_n hx hb dX10_mendsFrom_24 rfl (lv_at hl 0 rfl) ?_
      refine lv_iload_n hx hb dX10_mendsFrom_25 rfl (lv_at hl 3 rfl) ?_
      refine cvS (n := 1) (As := [.int a2]) (rest := []) ⟨hx, hb, hml, hown, hts⟩ uc_in (kX10_isBy_0 l D C A u102 hI a2 A2 ha2) q_m1678 q_n1680 q_p92 q_i11 q_c1681 hvX10_isBy ⟨(Nat.le_of_ble_eq_true rfl), (Nat.le_of_ble_eq_true rfl)⟩ ⟨(Nat.le_of_ble_eq_true rfl), (Nat.le_of_ble_eq_true rfl)⟩ hK hH.1 10 0 rfl (mwc0 C A u102) rfl hl.1 rfl (Nat.le_of_ble_eq_true rfl) dX10_mendsFrom_26 (fun r124 p125 => ?_)
      have p125 : 0 ≤ r124.toInt ∧ r124.toInt ≤ 1 := p125
      refine lv_if_eq (tgt := 36) hx hb dX10_mendsFrom_29 (by decide) (fun c126 => ?_) (fun c126 => ?_)
      · have c126 := cEQ (x := r124) (y := 0) (X := r124.toInt) (Y := 0) rfl (by decide) c126
        refine lv_iconst (v := 1) hx hb dX10_mendsFrom_36 (by decide) ?_
        exact j37_117 ls 1 (lv_sub hl [0, 1] rfl)
      · have c126 := cNE (x := r124) (y := 0) (X := r124.toInt) (Y := 0) rfl (by decide) c126
        refine lv_iconst (v := 0) hx hb dX10_mendsFrom_32 (by decide) ?_
        refine lv_goto (tgt := 37) hx hb dX10_mendsFrom_33 (by decide) ?_
        exact j37_117 ls 0 (lv_sub hl [0, 1] rfl)
    · have c105 := cEQ (x := a2) (y := (-1)) (X := A2) (Y := (-1)) ha2 (by decide) c105
      refine lv_aload_n hx hb dX10_mendsFrom_17 rfl (lv_at hl 0 rfl) ?_
      refine cvS (n := 0) (As := []) (rest := []) ⟨hx, hb, hml, hown, hts⟩ uc_in (kX10_waitAll_0 l D C A u102 hI ) q_m1558 q_n1560 q_p85 q_i11 q_c1561 hvX10_waitAll ⟨(Nat.le_of_ble_eq_true rfl), (Nat.le_of_ble_eq_true rfl)⟩ ⟨(Nat.le_of_ble_eq_true rfl), (Nat.le_of_ble_eq_true rfl)⟩ hK hH.1 10 0 rfl (mwc0 C A u102) rfl hl.1 rfl (Nat.le_of_ble_eq_true rfl) dX10_mendsFrom_18 (fun r127 p128 => ?_)
      refine lv_goto (tgt := 37) hx hb dX10_mendsFrom_21 (by decide) ?_
      exact j37_117 ls r127 (lv_sub hl [0, 1] rfl)
set_option maxHeartbeats 4000000 in
set_option maxRecDepth 100000 in
theorem kX10_laysMends_0 (l : Launch) (D : va_G) (C : Nat → ClassId) (A : Nat → Nat) (u : St) (hI : IM u) (a0 : Int32) (A0 : Int) (ha0 : a0.toInt = A0) (a1 : Int32) (A1 : Int) (ha1 : a1.toInt = A1) (hl0 : 0 ≤ A0) (hm0 : A0 ≤ 3) (sz : Nat) : MetV l yX10_laysMends cX10_laysMends 4 11 [.ref (A 0), .int a0, .int a1] D (tyl C) (mw C A) X0 u sz (fun u' => IM u' ∧ Un [(24, 24), (25, 25), (28, 28), (29, 29), (30, 30)] [(12, 12), (13, 13), (14, 14), (15, 15)] [] u u' ∧ True) := by
  refine mV (by decide) (Nat.le_of_ble_eq_true rfl) ?_
  intro p e s m below meth c ls ar Q hx hb hml hown hts hK hH hX hl hret
  have hown : s.vm.findClass RX10 = some m.cls := hown
  have hl : lv_has ls 4 [(0, .ref (A 0)), (1, .int a0), (2, .int a1)] := hl
  refine lv_aload_n hx hb dX10_laysMends_0 rfl (lv_at hl 0 rfl) ?_
  refine cvU (n := 0) (As := []) (rest := []) ⟨hx, hb, hml, hown, hts⟩ uc_in (kX10_lays_0 l D C A u hI  _) q_m1481 q_n1483 q_p75 q_i11 q_c1484 hvX10_lays ⟨(Nat.le_of_ble_eq_true rfl), (Nat.le_of_ble_eq_true rfl)⟩ ⟨(Nat.le_of_ble_eq_true rfl), (Nat.le_of_ble_eq_true rfl)⟩ hK hH (fun q h => Or.inr h) Bl0 (fun _ _ _ => trivial) 10 0 rfl (mwc0 C A u) rfl hl.1 rfl (Nat.le_of_ble_eq_true rfl) dX10_laysMends_1 (fun u1 H locs p3 hH => ?_)
  obtain ⟨hI, hUu1, p3⟩ := p3
  refine lv_aload_n hx hb dX10_laysMends_4 rfl (lv_at hl 0 rfl) ?_
  refine lv_ldcw (v := 2000000000) hx hb hown (hts _ (uc_in _ q_k1698)) dX10_laysMends_5 ?_
  refine r_put (j := 28) (ci := 10) (C := RX10) (T := TX10) (N := 42) hx hb hts (fun w h => uc_in w (inX10 w h)) tyX10 tyX10_ok nmX10 hown hK hH 0 (mwc0 C A u1) rfl 28 (by decide) (hts _ (uc_in _ q_f1216)) (fun _ h9 => h9) rfl (by decide +kernel) (Nat.le_of_ble_eq_true rfl) (mws28 C A u1 _) dX10_laysMends_8 (fun u4 eu4 H locs hH => ?_)
  have hI := hI.pi0 eu4 rfl
  refine lv_iload_n hx hb dX10_laysMends_11 rfl (lv_at hl 2 rfl) ?_
  refine lv_iconst (v := (-1)) hx hb dX10_laysMends_12 (by decide) ?_
  have j21_88 : ∀ (ls : Array Slot) (u88 : St) (H : Heap) (locs : List Loc), Un [(28, 28)] [] [] u4 u88 → IM u88 → Hd D (mw C A) (va_A (mw C A u) s.heap.size) s.heap u88 H locs → lv_has ls 4 [(0, .ref (A 0)), (1, .int a0), (2, .int a1)] → W p l e (rmL 11 0 0) s m ar below meth c H locs 0 0 Q (F0 m 21 ls []) := by
    intro ls u88 H locs hUu88 hI hH hl
    refine lv_aload_n hx hb dX10_laysMends_21 rfl (lv_at hl 0 rfl) ?_
    refine lv_iconst (v := (-1)) hx hb dX10_laysMends_22 (by decide) ?_
    refine r_put (j := 30) (ci := 10) (C := RX10) (T := TX10) (N := 42) hx hb hts (fun w h => uc_in w (inX10 w h)) tyX10 tyX10_ok nmX10 hown hK hH 0 (mwc0 C A u88) rfl 30 (by decide) (hts _ (uc_in _ q_f1218)) (fun _ h9 => h9) rfl (by decide +kernel) (Nat.le_of_ble_eq_true rfl) (mws30 C A u88 _) dX10_laysMends_23 (fun u90 eu90 H locs hH => ?_)
    have hI := hI.pi0 eu90 rfl
    refine lv_aload_n hx hb dX10_laysMends_26 rfl (lv_at hl 0 rfl) ?_
    refine lv_iconst (v := (-1)) hx hb dX10_laysMends_27 (by decide) ?_
    refine r_put (j := 29) (ci := 10) (C := RX10) (T := TX10) (N := 42) hx hb hts (fun w h => uc_in w (inX10 w h)) tyX10 tyX10_ok nmX10 hown hK hH 0 (mwc0 C A u90) rfl 29 (by decide) (hts _ (uc_in _ q_f1217)) (fun _ h9 => h9) rfl (by decide +kernel) (Nat.le_of_ble_eq_true rfl) (mws29 C A u90 _) dX10_laysMends_28 (fun u91 eu91 H locs hH => ?_)
    have hI := hI.pi0 eu91 rfl
    refine lv_iconst (v := 0) hx hb dX10_laysMends_31 (by decide) ?_
    refine lv_istore_n (lv' := [(3, .int 0), (0, .ref (A 0)), (1, .int a0), (2, .int a1)]) hx hb dX10_laysMends_32 rfl hl (by decide) rfl (fun ls hl => ?_)
    have lp33_164 : ∀ (n33 : Nat) (ls : Array Slot) (y163d : Int32) (u164 : St) (H : Heap) (locs : List Loc), 0 ≤ y163d.toInt → y163d.toInt ≤ 4 → gi u164 25 = 0 → 4 - y163d.toInt < (n33 : Int) → Un [(25, 25), (28, 28), (29, 29), (30, 30)] [(12, 12), (13, 13), (14, 14), (15, 15)] [] u91 u164 → IM u164 → Hd D (mw C A) (va_A (mw C A u) s.heap.size) s.heap u164 H locs → lv_has ls 4 [(3, .int y163d), (0, .ref (A 0)), (1, .int a0), (2, .int a1)] → W p l e (rmL 11 0 0) s m ar below meth c H locs 0 0 Q (F0 m 33 ls []) := by
      intro n33
      induction n33 with
      | zero => intro ls y163d u164 H locs ly163d my163d hku164_0 hmun33 hUu164 hI hH hl; exfalso; omega
      | succ n33 ih33_164 =>
        intro ls y163d u164 H locs ly163d my163d hku164_0 hmun33 hUu164 hI hH hl
        refine lv_iload_n hx hb dX10_laysMends_33 rfl (lv_at hl 0 rfl) ?_
        refine lv_iload_n hx hb dX10_laysMends_34 rfl (lv_at hl 2 rfl) ?_
        refine lv_icmp_gt (tgt := 51) hx hb dX10_laysMends_35 (by decide) (fun c166 => ?_) (fun c166 => ?_)
        · have c166 := cLT (x := a0) (y := y163d) (X := A0) (Y := y163d.toInt) ha0 rfl c166
          exact hret _ _ _ _ _ dX10_laysMends_51 ⟨hI, (Un.tr (Un.si (Un.si (Un.tr (Un.si (Un.tr Un.rf hUu1 rfl rfl rfl) rfl eu4) hUu88 rfl rfl rfl) rfl eu90) rfl eu91) hUu164 rfl rfl rfl), trivial⟩ hH
        · have c166 := cNLT (x := a0) (y := y163d) (X := A0) (Y := y163d.toInt) ha0 rfl c166
          refine lv_aload_n hx hb dX10_laysMends_38 rfl (lv_at hl 1 rfl) ?_
          refine lv_iload_n hx hb dX10_laysMends_39 rfl (lv_at hl 0 rfl) ?_
          refine lv_iconst (v := 0) hx hb dX10_laysMends_40 (by decide) ?_
          refine lv_iload_n hx hb dX10_laysMends_41 rfl (lv_at hl 3 rfl) ?_
          refine cvU (n := 3) (As := [.int y163d, .int 0, .int a1]) (rest := []) ⟨hx, hb, hml, hown, hts⟩ uc_in (kX10_mendsFrom_0 l D C A u164 hI y163d y163d.toInt rfl (0) 0 (by decide) a1 A1 ha1 (by omega) (by omega) (by decide) (by decide) hku164_0 _) q_m1699 q_n1701 q_p95 q_i11 q_c1702 hvX10_mendsFrom ⟨(Nat.le_of_ble_eq_true rfl), (Nat.le_of_ble_eq_true rfl)⟩ ⟨(Nat.le_of_ble_eq_true rfl), (Nat.le_of_ble_eq_true rfl)⟩ hK hH (fun q h => Or.inr h) Bl0 (fun _ _ _ => trivial) 10 0 rfl (mwc0 C A u164) rfl hl.1 rfl (Nat.le_of_ble_eq_true rfl) dX10_laysMends_42 (fun u167 H locs p169 hH => ?_)
          obtain ⟨hI, hUu167, p169⟩ := p169
          obtain ⟨z170, ez170⟩ : ∃ z, z = y163d + Int32.ofInt 1 := ⟨_, rfl⟩
          have hz170 : z170.toInt = y163d.toInt + 1 := by rw [ez170]; exact tt_add rfl (by decide) (by omega) (by omega)
          refine lv_iinc (v := z170) (lv' := [(3, .int z170), (0, .ref (A 0)), (1, .int a0), (2, .int a1)]) hx hb dX10_laysMends_45 hl (k := 0) rfl ez170.symm (by decide) rfl (fun ls hl => ?_)
          refine lv_goto (tgt := 33) hx hb dX10_laysMends_48 (by decide) ?_
          exact ih33_164 ls z170 u167 _ _ (by have q9 := (show z170.toInt = (y163d.toInt + 1) from hz170); omega) (by have q9 := (show z170.toInt = (y163d.toInt + 1) from hz170); omega) p169 (by have q9 := (show z170.toInt = (y163d.toInt + 1) from hz170); omega) (Un.tr hUu164 hUu167 rfl rfl rfl) hI hH hl
    exact lp33_164 5 ls 0 u91 _ _ (by decide) (by decide) ((gi_ne eu91 (by decide)).trans ((gi_ne eu90 (by decide)).trans ((hUu88.1 25 rfl).trans ((gi_ne eu4 (by decide)).trans p3)))) (by have q9 : (0 : Int32).toInt = 0 := (by decide); omega) Un.rf hI hH hl
  refine lv_icmp_eq (tgt := 21) hx hb dX10_laysMends_13 (by decide) (fun c5 => ?_) (fun c5 => ?_)
  · have c5 := cEQ (x := a1) (y := (-1)) (X := A1) (Y := (-1)) ha1 (by decide) c5
    exact j21_88 ls u4 _ _ Un.rf hI hH hl
  · refine lv_aload_n hx hb dX10_laysMends_16 rfl (lv_at hl 0 rfl) ?_
    refine lv_iconst (v := 1) hx hb dX10_laysMends_17 (by decide) ?_
    refine r_put (j := 28) (ci := 10) (C := RX10) (T := TX10) (N := 42) hx hb hts (fun w h => uc_in w (inX10 w h)) tyX10 tyX10_ok nmX10 hown hK hH 0 (mwc0 C A u4) rfl 28 (by decide) (hts _ (uc_in _ q_f1216)) (fun _ h9 => h9) rfl (by decide +kernel) (Nat.le_of_ble_eq_true rfl) (mws28 C A u4 _) dX10_laysMends_18 (fun u171 eu171 H locs hH => ?_)
    have hI := hI.pi0 eu171 rfl
    exact j21_88 ls u171 _ _ (Un.si Un.rf rfl eu171) hI hH hl
set_option maxHeartbeats 4000000 in
set_option maxRecDepth 100000 in
theorem kX10_fewest_0 (l : Launch) (D : va_G) (C : Nat → ClassId) (A : Nat → Nat) (u : St) (hI : IM u) (a0 : Int32) (A0 : Int) (ha0 : a0.toInt = A0) (sz : Nat) : MetI l yX10_fewest cX10_fewest 2 (some .int) 12 [.ref (A 0), .int a0] D (tyl C) (mw C A) X0 u sz (fun r u' => IM u' ∧ Un [(0, 0), (24, 24), (25, 25), (28, 28), (29, 29), (30, 30)] [(12, 12), (13, 13), (14, 14), (15, 15)] [] u u' ∧ (True)) := by
  refine mI (by decide) (Nat.le_of_ble_eq_true rfl) ?_
  intro p e s m below meth c ls ar Q hx hb hml hown hts hK hH hX hl hret
  have hown : s.vm.findClass RX10 = some m.cls := hown
  have hl : lv_has ls 2 [(0, .ref (A 0)), (1, .int a0)] := hl
  refine lv_aload_n hx hb dX10_fewest_0 rfl (lv_at hl 0 rfl) ?_
  refine lv_iconst (v := 0) hx hb dX10_fewest_1 (by decide) ?_
  refine r_put (j := 0) (ci := 10) (C := RX10) (T := TX10) (N := 42) hx hb hts (fun w h => uc_in w (inX10 w h)) tyX10 tyX10_ok nmX10 hown hK hH 0 (mwc0 C A u) rfl 0 (by decide) (hts _ (uc_in _ q_f1188)) (fun _ h9 => h9) rfl (by decide +kernel) (Nat.le_of_ble_eq_true rfl) (mws0 C A u _) dX10_fewest_2 (fun u1 eu1 H locs hH => ?_)
  have hI := hI.pi0 eu1 rfl
  refine lv_aload_n hx hb dX10_fewest_5 rfl (lv_at hl 0 rfl) ?_
  refine lv_iload_n hx hb dX10_fewest_6 rfl (lv_at hl 1 rfl) ?_
  refine cvS (n := 1) (As := [.int a0]) (rest := []) ⟨hx, hb, hml, hown, hts⟩ uc_in (kX10_isLong_0 l D C A u1 hI a0 A0 ha0) q_m1630 q_n1632 q_p90 q_i11 q_c1633 hvX10_isLong ⟨(Nat.le_of_ble_eq_true rfl), (Nat.le_of_ble_eq_true rfl)⟩ ⟨(Nat.le_of_ble_eq_true rfl), (Nat.le_of_ble_eq_true rfl)⟩ hK hH.1 10 0 rfl (mwc0 C A u1) rfl hl.1 rfl (Nat.le_of_ble_eq_true rfl) dX10_fewest_7 (fun r2 p3 => ?_)
  have p3 : 0 ≤ r2.toInt ∧ r2.toInt ≤ 1 := p3
  refine lv_if_ne (tgt := 16) hx hb dX10_fewest_10 (by decide) (fun c4 => ?_) (fun c4 => ?_)
  · have c4 := cNE (x := r2) (y := 0) (X := r2.toInt) (Y := 0) rfl (by decide) c4
    refine lv_aload_n hx hb dX10_fewest_16 rfl (lv_at hl 0 rfl) ?_
    refine lv_iconst (v := 3) hx hb dX10_fewest_17 (by decide) ?_
    refine lv_iload_n hx hb dX10_fewest_18 rfl (lv_at hl 1 rfl) ?_
    refine cvU (n := 2) (As := [.int 3, .int a0]) (rest := []) ⟨hx, hb, hml, hown, hts⟩ uc_in (kX10_laysMends_0 l D C A u1 hI (3) 3 (by decide) a0 A0 ha0 (by decide) (by decide) _) q_m1694 q_n1696 q_p94 q_i11 q_c1697 hvX10_laysMends ⟨(Nat.le_of_ble_eq_true rfl), (Nat.le_of_ble_eq_true rfl)⟩ ⟨(Nat.le_of_ble_eq_true rfl), (Nat.le_of_ble_eq_true rfl)⟩ hK hH (fun q h => Or.inr h) Bl0 (fun _ _ _ => trivial) 10 0 rfl (mwc0 C A u1) rfl hl.1 rfl (Nat.le_of_ble_eq_true rfl) dX10_fewest_19 (fun u5 H locs p7 hH => ?_)
    obtain ⟨hI, hUu5, p7⟩ := p7
    refine lv_aload_n hx hb dX10_fewest_22 rfl (lv_at hl 0 rfl) ?_
    refine va_get (ci := 10) (v := .int (gi u5 30)) (C := RX10) (T := TX10) (N := 42) hx hb hts (fun w h => uc_in w (inX10 w h)) hown hK hH.1 0 (mwc0 C A u5) rfl 30 (by decide) (hts _ (uc_in _ q_f1218)) (fun _ h9 => h9) rfl dX10_fewest_23 ?_
    exact hret _ _ _ _ (gi u5 30) _ dX10_fewest_26 rfl ⟨hI, (Un.tr (Un.si Un.rf rfl eu1) hUu5 rfl rfl rfl), trivial⟩ hH
  · have c4 := cEQ (x := r2) (y := 0) (X := r2.toInt) (Y := 0) rfl (by decide) c4
    refine lv_bipush (v := (-2)) hx hb dX10_fewest_13 (by decide) ?_
    exact hret _ _ _ _ ((-2) : Int32) _ dX10_fewest_15 rfl ⟨hI, (Un.si Un.rf rfl eu1), trivial⟩ hH
set_option maxHeartbeats 4000000 in
set_option maxRecDepth 100000 in
theorem kX10_isUnder_0 (l : Launch) (D : va_G) (C : Nat → ClassId) (A : Nat → Nat) (u : St) (hI : IM u) (a0 : Int32) (A0 : Int) (ha0 : a0.toInt = A0) (a1 : Int32) (A1 : Int) (ha1 : a1.toInt = A1) (a2 : Int32) (A2 : Int) (ha2 : a2.toInt = A2) (hl0 : 0 ≤ A0) (hm0 : A0 ≤ 3) (hrow : RowOK u a0 A0) : Met l yX10_isUnder (uc yX10_isUnder cX10_isUnder 8 (some .boolean)) (rmL 5 0 0) (va_Pc [.ref (A 0), .int a0, .int a1, .int a2] (PreR D (tyl C) (mw C A u))) (vp_Si (fun r => 0 ≤ r.toInt ∧ r.toInt ≤ 1)) 0 0 (fun _ => False) := by
  refine mS (by decide) (Nat.le_of_ble_eq_true rfl) ?_
  intro p e s m below meth c ls ar Q hx hb hml hown hts hK hP hl hret
  have hown : s.vm.findClass RX10 = some m.cls := hown
  have hl : lv_has ls 8 [(0, .ref (A 0)), (1, .int a0), (2, .int a1), (3, .int a2)] := hl
  refine lv_iconst (v := 0) hx hb dX10_isUnder_0 (by decide) ?_
  refine lv_istore (lv' := [(4, .int 0), (0, .ref (A 0)), (1, .int a0), (2, .int a1), (3, .int a2)]) hx hb dX10_isUnder_1 hl (by decide) rfl (fun ls hl => ?_)
  have lp3_223 : ∀ (n3 : Nat) (ls : Array Slot) (y223d : Int32), 0 ≤ y223d.toInt → y223d.toInt ≤ 61 → y223d.toInt % 2 = 0 → 61 - y223d.toInt < (n3 : Int) → lv_has ls 8 [(4, .int y223d), (0, .ref (A 0)), (1, .int a0), (2, .int a1), (3, .int a2)] → W p l e (rmL 5 0 0) s m ar below meth c s.heap [] 0 0 Q (F0 m 3 ls []) := by
    intro n3
    induction n3 with
    | zero => intro ls y223d ly223d my223d x3_0 hmun3 hl; exfalso; omega
    | succ n3 ih3_223 =>
      intro ls y223d ly223d my223d x3_0 hmun3 hl
      refine lv_iload hx hb dX10_isUnder_3 (lv_at hl 0 rfl) ?_
      refine lv_aload_n hx hb dX10_isUnder_5 rfl (lv_at hl 1 rfl) ?_
      refine va_get (ci := 10) (v := .ref (A 2)) (C := RX10) (T := TX10) (N := 42) hx hb hts (fun w h => uc_in w (inX10 w h)) hown hK hP 0 (mwc0 C A u) rfl 2 (by decide) (hts _ (uc_in _ q_f1190)) (fun _ h9 => h9) rfl dX10_isUnder_6 ?_
      refine lv_iload_n hx hb dX10_isUnder_9 rfl (lv_at hl 2 rfl) ?_
      refine va_iald hx hb hK hP 2 1 (mwc2 C A u) rfl (i_ix ha0 (by omega) (by omega)) dX10_isUnder_10 ?_
      have b225 : 0 ≤ ((ga u 2 (Int32.toNatClampNeg a0))).toInt ∧ ((ga u 2 (Int32.toNatClampNeg a0))).toInt ≤ 60 := hI.a2 _
      refine lv_icmp_ge (tgt := 99) hx hb dX10_isUnder_11 (by decide) (fun c226 => ?_) (fun c226 => ?_)
      · have c226 := cLE (x := (ga u 2 (Int32.toNatClampNeg a0))) (y := y223d) (X := ((ga u 2 (Int32.toNatClampNeg a0))).toInt) (Y := y223d.toInt) rfl rfl c226
        refine lv_iconst (v := 1) hx hb dX10_isUnder_99 (by decide) ?_
        exact hret _ _ (1 : Int32) dX10_isUnder_100 rfl ⟨by decide, by decide⟩
      · have c226 := cNLE (x := (ga u 2 (Int32.toNatClampNeg a0))) (y := y223d) (X := ((ga u 2 (Int32.toNatClampNeg a0))).toInt) (Y := y223d.toInt) rfl rfl c226
        refine lv_aload_n hx hb dX10_isUnder_14 rfl (lv_at hl 1 rfl) ?_
        refine va_get (ci := 10) (v := .ref (A 3)) (C := RX10) (T := TX10) (N := 42) hx hb hts (fun w h => uc_in w (inX10 w h)) hown hK hP 0 (mwc0 C A u) rfl 3 (by decide) (hts _ (uc_in _ q_f1191)) (fun _ h9 => h9) rfl dX10_isUnder_15 ?_
        refine lv_bipush (v := 60) hx hb dX10_isUnder_18 (by decide) ?_
        refine lv_iload_n hx hb dX10_isUnder_20 rfl (lv_at hl 2 rfl) ?_
        refine lv_imul hx hb dX10_isUnder_21 ?_
        refine p_nm (tt_mul (X := 60) (Y := A0) (by decide) ha0 (by omega) (by omega)) (fun z227 hz227 => ?_)
        refine lv_iload hx hb dX10_isUnder_22 (lv_at hl 0 rfl) ?_
        refine lv_iadd hx hb dX10_isUnder_24 ?_
        refine p_nm (tt_add (X := (60 * A0)) (Y := y223d.toInt) hz227 rfl (by omega) (by omega)) (fun z228 hz228 => ?_)
        refine va_lald hx hb hK hP 3 2 (mwc3 C A u) rfl (i_ix hz228 (by omega) (by omega)) dX10_isUnder_25 ?_
        have b229 := RowTo.at (J := y223d.toInt) hrow hz228 (by omega) (by omega) (by omega) (by omega) (by omega)
        refine lv_l2i hx hb dX10_isUnder_26 rfl ?_
        refine p_nm (tt_l2i rfl (by omega) (by omega)) (fun z230 hz230 => ?_)
        refine lv_istore (lv' := [(5, .int z230), (4, .int y223d), (0, .ref (A 0)), (1, .int a0), (2, .int a1), (3, .int a2)]) hx hb dX10_isUnder_27 hl (by decide) rfl (fun ls hl => ?_)
        refine lv_iload_n hx hb dX10_isUnder_29 rfl (lv_at hl 4 rfl) ?_
        refine lv_iload_n hx hb dX10_isUnder_30 rfl (lv_at hl 5 rfl) ?_
        refine lv_iload hx hb dX10_isUnder_31 (lv_at hl 0 rfl) ?_
        refine lv_imul hx hb dX10_isUnder_33 ?_
        refine p_any (fun z231 => ?_)
        refine lv_iadd hx hb dX10_isUnder_34 ?_
        refine p_any (fun z232 => ?_)
        refine lv_istore (lv' := [(6, .int z232), (5, .int z230), (4, .int y223d), (0, .ref (A 0)), (1, .int a0), (2, .int a1), (3, .int a2)]) hx hb dX10_isUnder_35 hl (by decide) rfl (fun ls hl => ?_)
        refine lv_aload_n hx hb dX10_isUnder_37 rfl (lv_at hl 3 rfl) ?_
        refine lv_iload hx hb dX10_isUnder_38 (lv_at hl 1 rfl) ?_
        refine cvS (n := 1) (As := [.int z230]) (rest := []) ⟨hx, hb, hml, hown, hts⟩ uc_in (kX10_countsOf_0 l D C A u hI z230 (((gb u 3 (Int32.toNatClampNeg z228))).toInt) hz230 (by omega) (by omega)) q_m1500 q_n1502 q_p78 q_i11 q_c1503 hvX10_countsOf ⟨(Nat.le_of_ble_eq_true rfl), (Nat.le_of_ble_eq_true rfl)⟩ ⟨(Nat.le_of_ble_eq_true rfl), (Nat.le_of_ble_eq_true rfl)⟩ hK hP 10 0 rfl (mwc0 C A u) rfl hl.1 rfl (Nat.le_of_ble_eq_true rfl) dX10_isUnder_40 (fun r233 p234 => ?_)
        have g235 : (ga u 7 3).toInt ≤ 6 := (hI.has 3).2
        have br233 : 0 ≤ r233.toInt ∧ r233.toInt ≤ 63 := ⟨p234.1, p234.2.1⟩
        have j68_248 : ∀ (ls : Array Slot) (y242d : Int32), lv_has ls 8 [(4, .int y223d), (0, .ref (A 0)), (1, .int a0), (2, .int a1), (3, .int a2)] → W p l e (rmL 5 0 0) s m ar below meth c s.heap [] 0 0 Q (F0 m 68 ls [.int y242d]) := by
          intro ls y242d hl
          refine lv_istore (lv' := [(7, .int y242d), (4, .int y223d), (0, .ref (A 0)), (1, .int a0), (2, .int a1), (3, .int a2)]) hx hb dX10_isUnder_68 hl (by decide) rfl (fun ls hl => ?_)
          refine lv_iload hx hb dX10_isUnder_70 (lv_at hl 0 rfl) ?_
          refine lv_i2l (v := y242d.toInt64) hx hb dX10_isUnder_72 rfl ?_
          refine lv_aload_n hx hb dX10_isUnder_73 rfl (lv_at hl 2 rfl) ?_
          refine va_get (ci := 10) (v := .ref (A 3)) (C := RX10) (T := TX10) (N := 42) hx hb hts (fun w h => uc_in w (inX10 w h)) hown hK hP 0 (mwc0 C A u) rfl 3 (by decide) (hts _ (uc_in _ q_f1191)) (fun _ h9 => h9) rfl dX10_isUnder_74 ?_
          refine lv_bipush (v := 60) hx hb dX10_isUnder_77 (by decide) ?_
          refine lv_iload_n hx hb dX10_isUnder_79 rfl (lv_at hl 3 rfl) ?_
          refine lv_imul hx hb dX10_isUnder_80 ?_
          refine p_nm (tt_mul (X := 60) (Y := A0) (by decide) ha0 (by omega) (by omega)) (fun z250 hz250 => ?_)
          refine lv_iload hx hb dX10_isUnder_81 (lv_at hl 1 rfl) ?_
          refine lv_iadd hx hb dX10_isUnder_83 ?_
          refine p_nm (tt_add (X := (60 * A0)) (Y := y223d.toInt) hz250 rfl (by omega) (by omega)) (fun z251 hz251 => ?_)
          refine lv_iconst (v := 1) hx hb dX10_isUnder_84 (by decide) ?_
          refine lv_iadd hx hb dX10_isUnder_85 ?_
          refine p_nm (tt_add (X := ((60 * A0) + y223d.toInt)) (Y := 1) hz251 (by decide) (by omega) (by omega)) (fun z252 hz252 => ?_)
          refine va_lald hx hb hK hP 3 2 (mwc3 C A u) rfl (i_ix hz252 (by omega) (by omega)) dX10_isUnder_86 ?_
          refine W.lcmp hx hb dX10_isUnder_87 ?_
          refine lv_if_eq (tgt := 93) hx hb dX10_isUnder_88 (by decide) (fun c253 => ?_) (fun c253 => ?_)
          · obtain ⟨z254, ez254⟩ : ∃ z, z = y223d + Int32.ofInt 2 := ⟨_, rfl⟩
            have hz254 : z254.toInt = y223d.toInt + 2 := by rw [ez254]; exact tt_add rfl (by decide) (by omega) (by omega)
            refine lv_iinc (v := z254) (lv' := [(4, .int z254), (7, .int y242d), (0, .ref (A 0)), (1, .int a0), (2, .int a1), (3, .int a2)]) hx hb dX10_isUnder_93 hl (k := 1) rfl ez254.symm (by decide) rfl (fun ls hl => ?_)
            refine lv_goto (tgt := 3) hx hb dX10_isUnder_96 (by decide) ?_
            exact ih3_223 ls z254 (by have q9 := (show z254.toInt = (y223d.toInt + 2) from hz254); omega) (by have q9 := (show z254.toInt = (y223d.toInt + 2) from hz254); omega) (by have r4 := (show (z254 : Int32).toInt = (y223d.toInt + 2) from hz254); omega) (by have q9 := (show z254.toInt = (y223d.toInt + 2) from hz254); omega) (lv_sub hl [0, 2, 3, 4, 5] rfl)
          · refine lv_iconst (v := 0) hx hb dX10_isUnder_91 (by decide) ?_
            exact hret _ _ (0 : Int32) dX10_isUnder_92 rfl ⟨by decide, by decide⟩
        have j57_255 : ∀ (ls : Array Slot), lv_has ls 8 [(6, .int z232), (4, .int y223d), (0, .ref (A 0)), (1, .int a0), (2, .int a1), (3, .int a2)] → W p l e (rmL 5 0 0) s m ar below meth c s.heap [] 0 0 Q (F0 m 57 ls []) := by
          intro ls hl
          refine lv_iload hx hb dX10_isUnder_57 (lv_at hl 0 rfl) ?_
          refine lv_goto (tgt := 68) hx hb dX10_isUnder_59 (by decide) ?_
          exact j68_248 ls z232 (lv_sub hl [1, 2, 3, 4, 5] rfl)
        refine lv_if_eq (tgt := 57) hx hb dX10_isUnder_43 (by decide) (fun c236 => ?_) (fun c236 => ?_)
        · have c236 := cEQ (x := r233) (y := 0) (X := r233.toInt) (Y := 0) rfl (by decide) c236
          exact j57_255 ls (lv_sub hl [0, 2, 3, 4, 5, 6] rfl)
        · have c236 := cNE (x := r233) (y := 0) (X := r233.toInt) (Y := 0) rfl (by decide) c236
          refine lv_aload_n hx hb dX10_isUnder_46 rfl (lv_at hl 3 rfl) ?_
          refine lv_iload hx hb dX10_isUnder_47 (lv_at hl 1 rfl) ?_
          refine cvS (n := 1) (As := [.int z230]) (rest := []) ⟨hx, hb, hml, hown, hts⟩ uc_in (kX10_noonOf__0 l D C A u hI z230 (((gb u 3 (Int32.toNatClampNeg z228))).toInt) hz230 (by omega) (by omega)) q_m1496 q_n1498 q_p77 q_i11 q_c1499 hvX10_noonOf_ ⟨(Nat.le_of_ble_eq_true rfl), (Nat.le_of_ble_eq_true rfl)⟩ ⟨(Nat.le_of_ble_eq_true rfl), (Nat.le_of_ble_eq_true rfl)⟩ hK hP 10 0 rfl (mwc0 C A u) rfl hl.1 rfl (Nat.le_of_ble_eq_true rfl) dX10_isUnder_49 (fun r257 p258 => ?_)
          refine lv_iload hx hb dX10_isUnder_52 (lv_at hl 0 rfl) ?_
          refine lv_icmp_ge (tgt := 62) hx hb dX10_isUnder_54 (by decide) (fun c259 => ?_) (fun c259 => ?_)
          · have c259 := cLE (x := z232) (y := r257) (X := z232.toInt) (Y := r257.toInt) rfl rfl c259
            refine lv_aload_n hx hb dX10_isUnder_62 rfl (lv_at hl 3 rfl) ?_
            refine lv_iload hx hb dX10_isUnder_63 (lv_at hl 1 rfl) ?_
            refine cvS (n := 1) (As := [.int z230]) (rest := []) ⟨hx, hb, hml, hown, hts⟩ uc_in (kX10_noonOf__0 l D C A u hI z230 (((gb u 3 (Int32.toNatClampNeg z228))).toInt) hz230 (by omega) (by omega)) q_m1496 q_n1498 q_p77 q_i11 q_c1499 hvX10_noonOf_ ⟨(Nat.le_of_ble_eq_true rfl), (Nat.le_of_ble_eq_true rfl)⟩ ⟨(Nat.le_of_ble_eq_true rfl), (Nat.le_of_ble_eq_true rfl)⟩ hK hP 10 0 rfl (mwc0 C A u) rfl hl.1 rfl (Nat.le_of_ble_eq_true rfl) dX10_isUnder_65 (fun r260 p261 => ?_)
            exact j68_248 ls r260 (lv_sub hl [2, 3, 4, 5, 6] rfl)
          · have c259 := cNLE (x := z232) (y := r257) (X := z232.toInt) (Y := r257.toInt) rfl rfl c259
            exact j57_255 ls (lv_sub hl [0, 2, 3, 4, 5, 6] rfl)
  exact lp3_223 62 ls 0 (by decide) (by decide) (by have r4 := (show (0 : Int32).toInt = 0 from (by decide)); omega) (by have q9 : (0 : Int32).toInt = 0 := (by decide); omega) hl
set_option maxHeartbeats 4000000 in
set_option maxRecDepth 100000 in
theorem kX10_floor_0 (l : Launch) (D : va_G) (C : Nat → ClassId) (A : Nat → Nat) (u : St) (hI : IM u) (a0 : Int32) (A0 : Int) (ha0 : a0.toInt = A0) (sz : Nat) : MetI l yX10_floor cX10_floor 5 (some .int) 6 [.ref (A 0), .int a0] D (tyl C) (mw C A) X0 u sz (fun r u' => IM u' ∧ Un [(0, 0), (24, 24), (25, 25)] [(12, 12), (13, 13)] [] u u' ∧ ((-6) ≤ r.toInt ∧ r.toInt ≤ 609)) := by
  refine mI (by decide) (Nat.le_of_ble_eq_true rfl) ?_
  intro p e s m below meth c ls ar Q hx hb hml hown hts hK hH hX hl hret
  have hown : s.vm.findClass RX10 = some m.cls := hown
  have hl : lv_has ls 5 [(0, .ref (A 0)), (1, .int a0)] := hl
  refine lv_aload_n hx hb dX10_floor_0 rfl (lv_at hl 0 rfl) ?_
  refine lv_iconst (v := 0) hx hb dX10_floor_1 (by decide) ?_
  refine r_put (j := 0) (ci := 10) (C := RX10) (T := TX10) (N := 42) hx hb hts (fun w h => uc_in w (inX10 w h)) tyX10 tyX10_ok nmX10 hown hK hH 0 (mwc0 C A u) rfl 0 (by decide) (hts _ (uc_in _ q_f1188)) (fun _ h9 => h9) rfl (by decide +kernel) (Nat.le_of_ble_eq_true rfl) (mws0 C A u _) dX10_floor_2 (fun u1 eu1 H locs hH => ?_)
  have hI := hI.pi0 eu1 rfl
  refine lv_aload_n hx hb dX10_floor_5 rfl (lv_at hl 0 rfl) ?_
  refine lv_iload_n hx hb dX10_floor_6 rfl (lv_at hl 1 rfl) ?_
  refine cvS (n := 1) (As := [.int a0]) (rest := []) ⟨hx, hb, hml, hown, hts⟩ uc_in (kX10_whyNot_0 l D C A u1 hI a0 A0 ha0) q_m1788 q_n1790 q_p104 q_i11 q_c1791 hvX10_whyNot ⟨(Nat.le_of_ble_eq_true rfl), (Nat.le_of_ble_eq_true rfl)⟩ ⟨(Nat.le_of_ble_eq_true rfl), (Nat.le_of_ble_eq_true rfl)⟩ hK hH.1 10 0 rfl (mwc0 C A u1) rfl hl.1 rfl (Nat.le_of_ble_eq_true rfl) dX10_floor_7 (fun r2 p3 => ?_)
  rcases p3 with p3 | ⟨e9, f4, f5, f6⟩
  · have p3 := p3
    refine lv_istore_n (lv' := [(2, .int r2), (0, .ref (A 0)), (1, .int a0)]) hx hb dX10_floor_10 rfl hl (by decide) rfl (fun ls hl => ?_)
    refine lv_iload_n hx hb dX10_floor_11 rfl (lv_at hl 0 rfl) ?_
    refine lv_if_eq (tgt := 17) hx hb dX10_floor_12 (by decide) (fun c7 => absurd (cEQ (x := r2) (y := 0) (X := r2.toInt) (Y := 0) rfl (by decide) c7) (by omega)) (fun c7 => ?_)
    refine lv_iload_n hx hb dX10_floor_15 rfl (lv_at hl 0 rfl) ?_
    exact hret _ _ _ _ r2 _ dX10_floor_16 rfl ⟨hI, (Un.si Un.rf rfl eu1), ⟨by omega, by omega⟩⟩ hH
  · subst e9
    refine lv_istore_n (lv' := [(2, .int 0), (0, .ref (A 0)), (1, .int a0)]) hx hb dX10_floor_10 rfl hl (by decide) rfl (fun ls hl => ?_)
    refine lv_iload_n hx hb dX10_floor_11 rfl (lv_at hl 0 rfl) ?_
    refine lv_if_eq (tgt := 17) hx hb dX10_floor_12 (by decide) (fun c8 => ?_) (fun c8 => absurd c8 (by decide))
    refine lv_aload_n hx hb dX10_floor_17 rfl (lv_at hl 1 rfl) ?_
    refine cvU (n := 0) (As := []) (rest := []) ⟨hx, hb, hml, hown, hts⟩ uc_in (kX10_lays_0 l D C A u1 hI  _) q_m1481 q_n1483 q_p75 q_i11 q_c1484 hvX10_lays ⟨(Nat.le_of_ble_eq_true rfl), (Nat.le_of_ble_eq_true rfl)⟩ ⟨(Nat.le_of_ble_eq_true rfl), (Nat.le_of_ble_eq_true rfl)⟩ hK hH (fun q h => Or.inr h) Bl0 (fun _ _ _ => trivial) 10 0 rfl (mwc0 C A u1) rfl hl.1 rfl (Nat.le_of_ble_eq_true rfl) dX10_floor_18 (fun u9 H locs p11 hH => ?_)
    obtain ⟨hI, hUu9, p11⟩ := p11
    refine lv_iconst (v := 0) hx hb dX10_floor_21 (by decide) ?_
    refine lv_istore_n (lv' := [(3, .int 0), (2, .int 0), (0, .ref (A 0)), (1, .int a0)]) hx hb dX10_floor_22 rfl hl (by decide) rfl (fun ls hl => ?_)
    have lp23_922 : ∀ (n23 : Nat) (ls : Array Slot) (y922d : Int32), 0 ≤ y922d.toInt → y922d.toInt ≤ 61 → 61 - y922d.toInt < (n23 : Int) → lv_has ls 5 [(3, .int y922d), (0, .ref (A 0)), (1, .int a0)] → W p l e (rmL 6 0 0) s m ar below meth c H locs 0 0 Q (F0 m 23 ls []) := by
      intro n23
      induction n23 with
      | zero => intro ls y922d ly922d my922d hmun23 hl; exfalso; omega
      | succ n23 ih23_922 =>
        intro ls y922d ly922d my922d hmun23 hl
        refine lv_iload_n hx hb dX10_floor_23 rfl (lv_at hl 0 rfl) ?_
        refine lv_bipush (v := 60) hx hb dX10_floor_24 (by decide) ?_
        refine lv_icmp_gt (tgt := 70) hx hb dX10_floor_26 (by decide) (fun c924 => ?_) (fun c924 => ?_)
        · have c924 := cLT (x := 60) (y := y922d) (X := 60) (Y := y922d.toInt) (by decide) rfl c924
          refine lv_iconst (v := (-1)) hx hb dX10_floor_70 (by decide) ?_
          exact hret _ _ _ _ ((-1) : Int32) _ dX10_floor_71 rfl ⟨hI, (Un.tr (Un.si Un.rf rfl eu1) hUu9 rfl rfl rfl), ⟨by decide, by decide⟩⟩ hH
        · have c924 := cNLT (x := 60) (y := y922d) (X := 60) (Y := y922d.toInt) (by decide) rfl c924
          refine lv_iconst (v := 0) hx hb dX10_floor_29 (by decide) ?_
          refine lv_istore (lv' := [(4, .int 0), (3, .int y922d), (0, .ref (A 0)), (1, .int a0)]) hx hb dX10_floor_30 hl (by decide) rfl (fun ls hl => ?_)
          have lp32_997 : ∀ (n32 : Nat) (ls : Array Slot) (y997d : Int32), 0 ≤ y997d.toInt → y997d.toInt ≤ 10 → 10 - y997d.toInt < (n32 : Int) → lv_has ls 5 [(4, .int y997d), (3, .int y922d), (0, .ref (A 0)), (1, .int a0)] → W p l e (rmL 6 0 0) s m ar below meth c H locs 0 0 Q (F0 m 32 ls []) := by
            intro n32
            induction n32 with
            | zero => intro ls y997d ly997d my997d hmun32 hl; exfalso; omega
            | succ n32 ih32_997 =>
              intro ls y997d ly997d my997d hmun32 hl
              refine lv_iload hx hb dX10_floor_32 (lv_at hl 0 rfl) ?_
              refine lv_bipush (v := 9) hx hb dX10_floor_34 (by decide) ?_
              refine lv_icmp_gt (tgt := 64) hx hb dX10_floor_36 (by decide) (fun c999 => ?_) (fun c999 => ?_)
              · have c999 := cLT (x := 9) (y := y997d) (X := 9) (Y := y997d.toInt) (by decide) rfl c999
                obtain ⟨z1000, ez1000⟩ : ∃ z, z = y922d + Int32.ofInt 1 := ⟨_, rfl⟩
                have hz1000 : z1000.toInt = y922d.toInt + 1 := by rw [ez1000]; exact tt_add rfl (by decide) (by omega) (by omega)
                refine lv_iinc (v := z1000) (lv' := [(3, .int z1000), (4, .int y997d), (0, .ref (A 0)), (1, .int a0)]) hx hb dX10_floor_64 hl (k := 1) rfl ez1000.symm (by decide) rfl (fun ls hl => ?_)
                refine lv_goto (tgt := 23) hx hb dX10_floor_67 (by decide) ?_
                exact ih23_922 ls z1000 (by have q9 := (show z1000.toInt = (y922d.toInt + 1) from hz1000); omega) (by have q9 := (show z1000.toInt = (y922d.toInt + 1) from hz1000); omega) (by have q9 := (show z1000.toInt = (y922d.toInt + 1) from hz1000); omega) (lv_sub hl [0, 2, 3] rfl)
              · have c999 := cNLT (x := 9) (y := y997d) (X := 9) (Y := y997d.toInt) (by decide) rfl c999
                refine lv_aload_n hx hb dX10_floor_39 rfl (lv_at hl 2 rfl) ?_
                refine lv_iload_n hx hb dX10_floor_40 rfl (lv_at hl 3 rfl) ?_
                refine lv_iload_n hx hb dX10_floor_41 rfl (lv_at hl 1 rfl) ?_
                refine lv_iload hx hb dX10_floor_42 (lv_at hl 0 rfl) ?_
                refine cvS (n := 3) (As := [.int a0, .int y922d, .int y997d]) (rest := []) ⟨hx, hb, hml, hown, hts⟩ uc_in (kX10_isUnder_0 l D C A u9 hI a0 A0 ha0 y922d y922d.toInt rfl y997d y997d.toInt rfl (by omega) (by omega) (RowOK.un (L := [(0, 0), (24, 24), (25, 25)]) (M := [(12, 12), (13, 13)]) (N := []) f6 (Un.tr Un.rf hUu9 rfl rfl rfl) rfl rfl)) q_m1816 q_n1818 q_p107 q_i11 q_c1819 hvX10_isUnder ⟨(Nat.le_of_ble_eq_true rfl), (Nat.le_of_ble_eq_true rfl)⟩ ⟨(Nat.le_of_ble_eq_true rfl), (Nat.le_of_ble_eq_true rfl)⟩ hK hH.1 10 0 rfl (mwc0 C A u9) rfl hl.1 rfl (Nat.le_of_ble_eq_true rfl) dX10_floor_44 (fun r1001 p1002 => ?_)
                have p1002 : 0 ≤ r1001.toInt ∧ r1001.toInt ≤ 1 := p1002
                refine lv_if_eq (tgt := 58) hx hb dX10_floor_47 (by decide) (fun c1003 => ?_) (fun c1003 => ?_)
                · have c1003 := cEQ (x := r1001) (y := 0) (X := r1001.toInt) (Y := 0) rfl (by decide) c1003
                  obtain ⟨z1004, ez1004⟩ : ∃ z, z = y997d + Int32.ofInt 1 := ⟨_, rfl⟩
                  have hz1004 : z1004.toInt = y997d.toInt + 1 := by rw [ez1004]; exact tt_add rfl (by decide) (by omega) (by omega)
                  refine lv_iinc (v := z1004) (lv' := [(4, .int z1004), (3, .int y922d), (0, .ref (A 0)), (1, .int a0)]) hx hb dX10_floor_58 hl (k := 0) rfl ez1004.symm (by decide) rfl (fun ls hl => ?_)
                  refine lv_goto (tgt := 32) hx hb dX10_floor_61 (by decide) ?_
                  exact ih32_997 ls z1004 (by have q9 := (show z1004.toInt = (y997d.toInt + 1) from hz1004); omega) (by have q9 := (show z1004.toInt = (y997d.toInt + 1) from hz1004); omega) (by have q9 := (show z1004.toInt = (y997d.toInt + 1) from hz1004); omega) hl
                · have c1003 := cNE (x := r1001) (y := 0) (X := r1001.toInt) (Y := 0) rfl (by decide) c1003
                  refine lv_bipush (v := 10) hx hb dX10_floor_50 (by decide) ?_
                  refine lv_iload_n hx hb dX10_floor_52 rfl (lv_at hl 1 rfl) ?_
                  refine lv_imul hx hb dX10_floor_53 ?_
                  refine p_nm (tt_mul (X := 10) (Y := y922d.toInt) (by decide) rfl (by omega) (by omega)) (fun z1005 hz1005 => ?_)
                  refine lv_iload hx hb dX10_floor_54 (lv_at hl 0 rfl) ?_
                  refine lv_iadd hx hb dX10_floor_56 ?_
                  refine p_nm (tt_add (X := (10 * y922d.toInt)) (Y := y997d.toInt) hz1005 rfl (by omega) (by omega)) (fun z1006 hz1006 => ?_)
                  exact hret _ _ _ _ z1006 _ dX10_floor_57 rfl ⟨hI, (Un.tr (Un.si Un.rf rfl eu1) hUu9 rfl rfl rfl), ⟨by have q9 := (show z1006.toInt = ((10 * y922d.toInt) + y997d.toInt) from hz1006); omega, by have q9 := (show z1006.toInt = ((10 * y922d.toInt) + y997d.toInt) from hz1006); omega⟩⟩ hH
          exact lp32_997 11 ls 0 (by decide) (by decide) (by have q9 : (0 : Int32).toInt = 0 := (by decide); omega) hl
    exact lp23_922 62 ls 0 (by decide) (by decide) (by have q9 : (0 : Int32).toInt = 0 := (by decide); omega) (lv_sub hl [0, 2, 3] rfl)
set_option maxHeartbeats 4000000 in
set_option maxRecDepth 100000 in
theorem kX10_gap_0 (l : Launch) (D : va_G) (C : Nat → ClassId) (A : Nat → Nat) (u : St) (hI : IM u) (a0 : Int32) (A0 : Int) (ha0 : a0.toInt = A0) (sz : Nat) : MetI l yX10_gap cX10_gap 5 (some .int) 4 [.ref (A 0), .int a0] D (tyl C) (mw C A) X0 u sz (fun r u' => IM u' ∧ Un [(0, 0), (24, 24), (25, 25)] [(12, 12), (13, 13)] [] u u' ∧ (True)) := by
  refine mI (by decide) (Nat.le_of_ble_eq_true rfl) ?_
  intro p e s m below meth c ls ar Q hx hb hml hown hts hK hH hX hl hret
  have hown : s.vm.findClass RX10 = some m.cls := hown
  have hl : lv_has ls 5 [(0, .ref (A 0)), (1, .int a0)] := hl
  refine lv_aload_n hx hb dX10_gap_0 rfl (lv_at hl 0 rfl) ?_
  refine lv_iconst (v := 0) hx hb dX10_gap_1 (by decide) ?_
  refine r_put (j := 0) (ci := 10) (C := RX10) (T := TX10) (N := 42) hx hb hts (fun w h => uc_in w (inX10 w h)) tyX10 tyX10_ok nmX10 hown hK hH 0 (mwc0 C A u) rfl 0 (by decide) (hts _ (uc_in _ q_f1188)) (fun _ h9 => h9) rfl (by decide +kernel) (Nat.le_of_ble_eq_true rfl) (mws0 C A u _) dX10_gap_2 (fun u1 eu1 H locs hH => ?_)
  have hI := hI.pi0 eu1 rfl
  refine lv_aload_n hx hb dX10_gap_5 rfl (lv_at hl 0 rfl) ?_
  refine lv_iload_n hx hb dX10_gap_6 rfl (lv_at hl 1 rfl) ?_
  refine lv_i2l (v := a0.toInt64) hx hb dX10_gap_7 rfl ?_
  refine cvS (n := 1) (As := [.long a0.toInt64]) (rest := []) ⟨hx, hb, hml, hown, hts⟩ uc_in (kX10_isDay_0 l D C A u1 hI a0.toInt64 A0 (tt_i2l ha0)) q_m1473 q_n1475 q_p73 q_i11 q_c1476 hvX10_isDay ⟨(Nat.le_of_ble_eq_true rfl), (Nat.le_of_ble_eq_true rfl)⟩ ⟨(Nat.le_of_ble_eq_true rfl), (Nat.le_of_ble_eq_true rfl)⟩ hK hH.1 10 0 rfl (mwc0 C A u1) rfl hl.1 rfl (Nat.le_of_ble_eq_true rfl) dX10_gap_8 (fun r2 p3 => ?_)
  rcases p3 with ⟨e9, f4, f5⟩ | e9
  · subst e9
    have b7 : 0 ≤ ((ga u1 7 0)).toInt ∧ ((ga u1 7 0)).toInt ≤ 7 := hI.has 0
    refine lv_if_ne (tgt := 17) hx hb dX10_gap_11 (by decide) (fun c8 => ?_) (fun c8 => absurd c8 (by decide))
    refine lv_aload_n hx hb dX10_gap_17 rfl (lv_at hl 0 rfl) ?_
    refine cvU (n := 0) (As := []) (rest := []) ⟨hx, hb, hml, hown, hts⟩ uc_in (kX10_lays_0 l D C A u1 hI  _) q_m1481 q_n1483 q_p75 q_i11 q_c1484 hvX10_lays ⟨(Nat.le_of_ble_eq_true rfl), (Nat.le_of_ble_eq_true rfl)⟩ ⟨(Nat.le_of_ble_eq_true rfl), (Nat.le_of_ble_eq_true rfl)⟩ hK hH (fun q h => Or.inr h) Bl0 (fun _ _ _ => trivial) 10 0 rfl (mwc0 C A u1) rfl hl.1 rfl (Nat.le_of_ble_eq_true rfl) dX10_gap_18 (fun u9 H locs p11 hH => ?_)
    obtain ⟨hI, hUu9, p11⟩ := p11
    refine lv_aload_n hx hb dX10_gap_21 rfl (lv_at hl 0 rfl) ?_
    refine lv_iload_n hx hb dX10_gap_22 rfl (lv_at hl 1 rfl) ?_
    refine cvS (n := 1) (As := [.int a0]) (rest := []) ⟨hx, hb, hml, hown, hts⟩ uc_in (kX10_countsOf_0 l D C A u9 hI a0 A0 ha0 (by omega) (by omega)) q_m1500 q_n1502 q_p78 q_i11 q_c1503 hvX10_countsOf ⟨(Nat.le_of_ble_eq_true rfl), (Nat.le_of_ble_eq_true rfl)⟩ ⟨(Nat.le_of_ble_eq_true rfl), (Nat.le_of_ble_eq_true rfl)⟩ hK hH.1 10 0 rfl (mwc0 C A u9) rfl hl.1 rfl (Nat.le_of_ble_eq_true rfl) dX10_gap_23 (fun r12 p13 => ?_)
    have g14 : (ga u9 7 3).toInt ≤ 6 := (hI.has 3).2
    have br12 : 0 ≤ r12.toInt ∧ r12.toInt ≤ 63 := ⟨p13.1, p13.2.1⟩
    refine lv_istore_n (lv' := [(2, .int r12), (0, .ref (A 0)), (1, .int a0)]) hx hb dX10_gap_26 rfl hl (by decide) rfl (fun ls hl => ?_)
    refine lv_iload_n hx hb dX10_gap_27 rfl (lv_at hl 0 rfl) ?_
    refine lv_if_ne (tgt := 33) hx hb dX10_gap_28 (by decide) (fun c15 => ?_) (fun c15 => ?_)
    · have c15 := cNE (x := r12) (y := 0) (X := r12.toInt) (Y := 0) rfl (by decide) c15
      refine lv_aload_n hx hb dX10_gap_33 rfl (lv_at hl 1 rfl) ?_
      refine lv_iload_n hx hb dX10_gap_34 rfl (lv_at hl 2 rfl) ?_
      refine lv_iload_n hx hb dX10_gap_35 rfl (lv_at hl 0 rfl) ?_
      refine cvS (n := 2) (As := [.int a0, .int r12]) (rest := []) ⟨hx, hb, hml, hown, hts⟩ uc_in (kX10_noonOf_0 l D C A u9 hI a0 A0 ha0 r12 r12.toInt rfl (by omega) (by omega)) q_m1504 q_n1506 q_p79 q_i11 q_c1507 hvX10_noonOf ⟨(Nat.le_of_ble_eq_true rfl), (Nat.le_of_ble_eq_true rfl)⟩ ⟨(Nat.le_of_ble_eq_true rfl), (Nat.le_of_ble_eq_true rfl)⟩ hK hH.1 10 0 rfl (mwc0 C A u9) rfl hl.1 rfl (Nat.le_of_ble_eq_true rfl) dX10_gap_36 (fun r16 p17 => ?_)
      refine lv_istore_n (lv' := [(3, .int r16), (2, .int r12), (0, .ref (A 0)), (1, .int a0)]) hx hb dX10_gap_39 rfl hl (by decide) rfl (fun ls hl => ?_)
      refine lv_aload_n hx hb dX10_gap_40 rfl (lv_at hl 2 rfl) ?_
      refine lv_iload_n hx hb dX10_gap_41 rfl (lv_at hl 3 rfl) ?_
      refine lv_iload_n hx hb dX10_gap_42 rfl (lv_at hl 1 rfl) ?_
      refine lv_iconst (v := 1) hx hb dX10_gap_43 (by decide) ?_
      refine lv_aload_n hx hb dX10_gap_44 rfl (lv_at hl 2 rfl) ?_
      refine lv_iload_n hx hb dX10_gap_45 rfl (lv_at hl 3 rfl) ?_
      refine lv_iload_n hx hb dX10_gap_46 rfl (lv_at hl 1 rfl) ?_
      refine cvS (n := 2) (As := [.int a0, .int r12]) (rest := [.int 1, .int r12, .int a0, .ref (A 0)]) ⟨hx, hb, hml, hown, hts⟩ uc_in (kX10_lastOf_0 l D C A u9 hI a0 A0 ha0 r12 r12.toInt rfl (by omega) (by omega)) q_m1508 q_n1510 q_p80 q_i11 q_c1511 hvX10_lastOf ⟨(Nat.le_of_ble_eq_true rfl), (Nat.le_of_ble_eq_true rfl)⟩ ⟨(Nat.le_of_ble_eq_true rfl), (Nat.le_of_ble_eq_true rfl)⟩ hK hH.1 10 0 rfl (mwc0 C A u9) rfl hl.1 rfl (Nat.le_of_ble_eq_true rfl) dX10_gap_47 (fun r18 p19 => ?_)
      have br18 : -1 ≤ r18.toInt ∧ r18.toInt ≤ 5 := ⟨p19.1, p19.2.1⟩
      refine lv_ishl hx hb dX10_gap_50 ?_
      refine p_any (fun z20 => ?_)
      refine lv_iconst (v := (-1)) hx hb dX10_gap_51 (by decide) ?_
      refine lv_ixor hx hb dX10_gap_52 ?_
      refine p_any (fun z21 => ?_)
      refine lv_iand hx hb dX10_gap_53 ?_
      have gz22 := tt_andL (x := r12) (y := z21) (X := r12.toInt) rfl (by omega)
      refine p_bd (P := fun q => 0 ≤ q ∧ q ≤ 63) ⟨by omega, by omega⟩ (fun z23 bz23 => ?_)
      have bz23 : 0 ≤ z23.toInt ∧ z23.toInt ≤ 63 := bz23
      refine cvS (n := 2) (As := [.int a0, .int z23]) (rest := []) ⟨hx, hb, hml, hown, hts⟩ uc_in (kX10_noonOf_0 l D C A u9 hI a0 A0 ha0 z23 z23.toInt rfl (by omega) (by omega)) q_m1504 q_n1506 q_p79 q_i11 q_c1507 hvX10_noonOf ⟨(Nat.le_of_ble_eq_true rfl), (Nat.le_of_ble_eq_true rfl)⟩ ⟨(Nat.le_of_ble_eq_true rfl), (Nat.le_of_ble_eq_true rfl)⟩ hK hH.1 10 0 rfl (mwc0 C A u9) rfl hl.1 rfl (Nat.le_of_ble_eq_true rfl) dX10_gap_54 (fun r24 p25 => ?_)
      refine lv_istore (lv' := [(4, .int r24), (3, .int r16), (2, .int r12), (0, .ref (A 0)), (1, .int a0)]) hx hb dX10_gap_57 hl (by decide) rfl (fun ls hl => ?_)
      refine lv_iload_n hx hb dX10_gap_59 rfl (lv_at hl 1 rfl) ?_
      refine lv_sipush (v := 10000) hx hb dX10_gap_60 (by decide) ?_
      refine lv_icmp_eq (tgt := 73) hx hb dX10_gap_63 (by decide) (fun c26 => ?_) (fun c26 => ?_)
      · have c26 := cEQ (x := r16) (y := 10000) (X := r16.toInt) (Y := 10000) rfl (by decide) c26
        refine lv_iload hx hb dX10_gap_73 (lv_at hl 0 rfl) ?_
        refine lv_sipush (v := 10000) hx hb dX10_gap_75 (by decide) ?_
        refine lv_icmp_ne (tgt := 85) hx hb dX10_gap_78 (by decide) (fun c27 => ?_) (fun c27 => ?_)
        · refine lv_sipush (v := 10000) hx hb dX10_gap_85 (by decide) ?_
          exact hret _ _ _ _ (10000 : Int32) _ dX10_gap_88 rfl ⟨hI, (Un.tr (Un.si Un.rf rfl eu1) hUu9 rfl rfl rfl), trivial⟩ hH
        · have c27 := cEQ (x := r24) (y := 10000) (X := r24.toInt) (Y := 10000) rfl (by decide) c27
          refine lv_iconst (v := 0) hx hb dX10_gap_81 (by decide) ?_
          refine lv_goto (tgt := 88) hx hb dX10_gap_82 (by decide) ?_
          exact hret _ _ _ _ (0 : Int32) _ dX10_gap_88 rfl ⟨hI, (Un.tr (Un.si Un.rf rfl eu1) hUu9 rfl rfl rfl), trivial⟩ hH
      · refine lv_iload_n hx hb dX10_gap_66 rfl (lv_at hl 1 rfl) ?_
        refine lv_iload hx hb dX10_gap_67 (lv_at hl 0 rfl) ?_
        refine lv_isub hx hb dX10_gap_69 ?_
        refine p_any (fun z28 => ?_)
        refine lv_goto (tgt := 88) hx hb dX10_gap_70 (by decide) ?_
        exact hret _ _ _ _ z28 _ dX10_gap_88 rfl ⟨hI, (Un.tr (Un.si Un.rf rfl eu1) hUu9 rfl rfl rfl), trivial⟩ hH
    · have c15 := cEQ (x := r12) (y := 0) (X := r12.toInt) (Y := 0) rfl (by decide) c15
      refine lv_iconst (v := 0) hx hb dX10_gap_31 (by decide) ?_
      exact hret _ _ _ _ (0 : Int32) _ dX10_gap_32 rfl ⟨hI, (Un.tr (Un.si Un.rf rfl eu1) hUu9 rfl rfl rfl), trivial⟩ hH
  · subst e9
    refine lv_if_ne (tgt := 17) hx hb dX10_gap_11 (by decide) (fun c29 => absurd c29 (by decide)) (fun c29 => ?_)
    refine lv_bipush (v := (-2)) hx hb dX10_gap_14 (by decide) ?_
    exact hret _ _ _ _ ((-2) : Int32) _ dX10_gap_16 rfl ⟨hI, (Un.si Un.rf rfl eu1), trivial⟩ hH
set_option maxHeartbeats 4000000 in
set_option maxRecDepth 100000 in
theorem kX10_hears_0 (l : Launch) (D : va_G) (C : Nat → ClassId) (A : Nat → Nat) (u : St) (hI : IM u) (a0 : Int32) (A0 : Int) (ha0 : a0.toInt = A0) (a1 : Int32) (A1 : Int) (ha1 : a1.toInt = A1) (a2 : Int32) (A2 : Int) (ha2 : a2.toInt = A2) (a3 : Int32) (A3 : Int) (ha3 : a3.toInt = A3) (hl0 : 0 ≤ A0) (hm0 : A0 ≤ 6) (hl3 : 0 ≤ A3) (hm3 : A3 ≤ 5) : Met l yX10_hears (uc yX10_hears cX10_hears 6 (some .int)) (rmL 1 0 0) (va_Pc [.ref (A 0), .int a0, .int a1, .int a2, .int a3] (PreR D (tyl C) (mw C A u))) (vp_Si (fun r => True)) 0 0 (fun _ => False) := by
  refine mS (by decide) (Nat.le_of_ble_eq_true rfl) ?_
  intro p e s m below meth c ls ar Q hx hb hml hown hts hK hP hl hret
  have hown : s.vm.findClass RX10 = some m.cls := hown
  have hl : lv_has ls 6 [(0, .ref (A 0)), (1, .int a0), (2, .int a1), (3, .int a2), (4, .int a3)] := hl
  refine lv_iload_n hx hb dX10_hears_0 rfl (lv_at hl 3 rfl) ?_
  refine lv_aload_n hx hb dX10_hears_1 rfl (lv_at hl 0 rfl) ?_
  refine va_get (ci := 10) (v := .ref (A 8)) (C := RX10) (T := TX10) (N := 42) hx hb hts (fun w h => uc_in w (inX10 w h)) hown hK hP 0 (mwc0 C A u) rfl 18 (by decide) (hts _ (uc_in _ q_f1206)) (fun _ h9 => h9) rfl dX10_hears_2 ?_
  refine lv_iconst (v := 5) hx hb dX10_hears_5 (by decide) ?_
  refine lv_iload hx hb dX10_hears_6 (lv_at hl 4 rfl) ?_
  refine lv_imul hx hb dX10_hears_8 ?_
  refine p_nm (tt_mul (X := 5) (Y := A3) (by decide) ha3 (by omega) (by omega)) (fun z1 hz1 => ?_)
  refine va_iald hx hb hK hP 8 1 (mwc8 C A u) rfl (i_ix hz1 (by omega) (by omega)) dX10_hears_9 ?_
  refine p_any (fun z2 => ?_)
  refine lv_iload_n hx hb dX10_hears_10 rfl (lv_at hl 2 rfl) ?_
  have j39_19 : ∀ (ls : Array Slot) (y10d : Int32), lv_has ls 6 [(0, .ref (A 0)), (1, .int a0), (4, .int a3)] → W p l e (rmL 1 0 0) s m ar below meth c s.heap [] 0 0 Q (F0 m 39 ls [.int y10d, .int a2]) := by
    intro ls y10d hl
    refine lv_iadd hx hb dX10_hears_39 ?_
    refine p_any (fun z21 => ?_)
    refine lv_istore (lv' := [(5, .int z21), (0, .ref (A 0)), (1, .int a0), (4, .int a3)]) hx hb dX10_hears_40 hl (by decide) rfl (fun ls hl => ?_)
    refine lv_iload hx hb dX10_hears_42 (lv_at hl 0 rfl) ?_
    refine lv_aload_n hx hb dX10_hears_44 rfl (lv_at hl 1 rfl) ?_
    refine va_get (ci := 10) (v := .ref (A 12)) (C := RX10) (T := TX10) (N := 42) hx hb hts (fun w h => uc_in w (inX10 w h)) hown hK hP 0 (mwc0 C A u) rfl 22 (by decide) (hts _ (uc_in _ q_f1210)) (fun _ h9 => h9) rfl dX10_hears_45 ?_
    refine lv_bipush (v := 6) hx hb dX10_hears_48 (by decide) ?_
    refine lv_iload_n hx hb dX10_hears_50 rfl (lv_at hl 2 rfl) ?_
    refine lv_imul hx hb dX10_hears_51 ?_
    refine p_nm (tt_mul (X := 6) (Y := A0) (by decide) ha0 (by omega) (by omega)) (fun z22 hz22 => ?_)
    refine lv_iload hx hb dX10_hears_52 (lv_at hl 3 rfl) ?_
    refine lv_iadd hx hb dX10_hears_54 ?_
    refine p_nm (tt_add (X := (6 * A0)) (Y := A3) hz22 ha3 (by omega) (by omega)) (fun z23 hz23 => ?_)
    refine va_iald hx hb hK hP 12 1 (mwc12 C A u) rfl (i_ix hz23 (by omega) (by omega)) dX10_hears_55 ?_
    refine p_any (fun z24 => ?_)
    refine lv_icmp_le (tgt := 64) hx hb dX10_hears_56 (by decide) (fun c25 => ?_) (fun c25 => ?_)
    · have c25 := cLE (x := z21) (y := z24) (X := z21.toInt) (Y := z24.toInt) rfl rfl c25
      refine lv_aload_n hx hb dX10_hears_64 rfl (lv_at hl 1 rfl) ?_
      refine va_get (ci := 10) (v := .ref (A 12)) (C := RX10) (T := TX10) (N := 42) hx hb hts (fun w h => uc_in w (inX10 w h)) hown hK hP 0 (mwc0 C A u) rfl 22 (by decide) (hts _ (uc_in _ q_f1210)) (fun _ h9 => h9) rfl dX10_hears_65 ?_
      refine lv_bipush (v := 6) hx hb dX10_hears_68 (by decide) ?_
      refine lv_iload_n hx hb dX10_hears_70 rfl (lv_at hl 2 rfl) ?_
      refine lv_imul hx hb dX10_hears_71 ?_
      refine p_nm (tt_mul (X := 6) (Y := A0) (by decide) ha0 (by omega) (by omega)) (fun z26 hz26 => ?_)
      refine lv_iload hx hb dX10_hears_72 (lv_at hl 3 rfl) ?_
      refine lv_iadd hx hb dX10_hears_74 ?_
      refine p_nm (tt_add (X := (6 * A0)) (Y := A3) hz26 ha3 (by omega) (by omega)) (fun z27 hz27 => ?_)
      refine va_iald hx hb hK hP 12 1 (mwc12 C A u) rfl (i_ix hz27 (by omega) (by omega)) dX10_hears_75 ?_
      refine p_any (fun z28 => ?_)
      exact hret _ _ z28 dX10_hears_76 rfl trivial
    · have c25 := cNLE (x := z21) (y := z24) (X := z21.toInt) (Y := z24.toInt) rfl rfl c25
      refine lv_iload hx hb dX10_hears_59 (lv_at hl 0 rfl) ?_
      refine lv_goto (tgt := 76) hx hb dX10_hears_61 (by decide) ?_
      exact hret _ _ z21 dX10_hears_76 rfl trivial
  refine lv_icmp_le (tgt := 28) hx hb dX10_hears_11 (by decide) (fun c3 => ?_) (fun c3 => ?_)
  · have c3 := cLE (x := z2) (y := a1) (X := z2.toInt) (Y := A1) rfl ha1 c3
    refine lv_iload_n hx hb dX10_hears_28 rfl (lv_at hl 2 rfl) ?_
    refine lv_aload_n hx hb dX10_hears_29 rfl (lv_at hl 0 rfl) ?_
    refine va_get (ci := 10) (v := .ref (A 8)) (C := RX10) (T := TX10) (N := 42) hx hb hts (fun w h => uc_in w (inX10 w h)) hown hK hP 0 (mwc0 C A u) rfl 18 (by decide) (hts _ (uc_in _ q_f1206)) (fun _ h9 => h9) rfl dX10_hears_30 ?_
    refine lv_iconst (v := 5) hx hb dX10_hears_33 (by decide) ?_
    refine lv_iload hx hb dX10_hears_34 (lv_at hl 4 rfl) ?_
    refine lv_imul hx hb dX10_hears_36 ?_
    refine p_nm (tt_mul (X := 5) (Y := A3) (by decide) ha3 (by omega) (by omega)) (fun z29 hz29 => ?_)
    refine va_iald hx hb hK hP 8 1 (mwc8 C A u) rfl (i_ix hz29 (by omega) (by omega)) dX10_hears_37 ?_
    refine p_any (fun z30 => ?_)
    refine lv_isub hx hb dX10_hears_38 ?_
    refine p_any (fun z31 => ?_)
    exact j39_19 ls z31 (lv_sub hl [0, 1, 4] rfl)
  · have c3 := cNLE (x := z2) (y := a1) (X := z2.toInt) (Y := A1) rfl ha1 c3
    refine lv_aload_n hx hb dX10_hears_14 rfl (lv_at hl 0 rfl) ?_
    refine va_get (ci := 10) (v := .ref (A 8)) (C := RX10) (T := TX10) (N := 42) hx hb hts (fun w h => uc_in w (inX10 w h)) hown hK hP 0 (mwc0 C A u) rfl 18 (by decide) (hts _ (uc_in _ q_f1206)) (fun _ h9 => h9) rfl dX10_hears_15 ?_
    refine lv_iconst (v := 5) hx hb dX10_hears_18 (by decide) ?_
    refine lv_iload hx hb dX10_hears_19 (lv_at hl 4 rfl) ?_
    refine lv_imul hx hb dX10_hears_21 ?_
    refine p_nm (tt_mul (X := 5) (Y := A3) (by decide) ha3 (by omega) (by omega)) (fun z32 hz32 => ?_)
    refine va_iald hx hb hK hP 8 1 (mwc8 C A u) rfl (i_ix hz32 (by omega) (by omega)) dX10_hears_22 ?_
    refine p_any (fun z33 => ?_)
    refine lv_iload_n hx hb dX10_hears_23 rfl (lv_at hl 2 rfl) ?_
    refine lv_isub hx hb dX10_hears_24 ?_
    refine p_any (fun z34 => ?_)
    refine lv_goto (tgt := 39) hx hb dX10_hears_25 (by decide) ?_
    exact j39_19 ls z34 (lv_sub hl [0, 1, 4] rfl)
set_option maxHeartbeats 4000000 in
set_option maxRecDepth 100000 in
theorem kX10_goes_0 (l : Launch) (D : va_G) (C : Nat → ClassId) (A : Nat → Nat) (u : St) (hI : IM u) (a0 : Int32) (A0 : Int) (ha0 : a0.toInt = A0) (a1 : Int32) (A1 : Int) (ha1 : a1.toInt = A1) (sz : Nat) : MetI l yX10_goes cX10_goes 9 (some .int) 4 [.ref (A 0), .int a0, .int a1] D (tyl C) (mw C A) X0 u sz (fun r u' => IM u' ∧ Un [(0, 0), (24, 24), (25, 25)] [(12, 12), (13, 13)] [] u u' ∧ (True)) := by
  refine mI (by decide) (Nat.le_of_ble_eq_true rfl) ?_
  intro p e s m below meth c ls ar Q hx hb hml hown hts hK hH hX hl hret
  have hown : s.vm.findClass RX10 = some m.cls := hown
  have hl : lv_has ls 9 [(0, .ref (A 0)), (1, .int a0), (2, .int a1)] := hl
  refine lv_aload_n hx hb dX10_goes_0 rfl (lv_at hl 0 rfl) ?_
  refine lv_iconst (v := 0) hx hb dX10_goes_1 (by decide) ?_
  refine r_put (j := 0) (ci := 10) (C := RX10) (T := TX10) (N := 42) hx hb hts (fun w h => uc_in w (inX10 w h)) tyX10 tyX10_ok nmX10 hown hK hH 0 (mwc0 C A u) rfl 0 (by decide) (hts _ (uc_in _ q_f1188)) (fun _ h9 => h9) rfl (by decide +kernel) (Nat.le_of_ble_eq_true rfl) (mws0 C A u _) dX10_goes_2 (fun u1 eu1 H locs hH => ?_)
  have hI := hI.pi0 eu1 rfl
  refine lv_iload_n hx hb dX10_goes_5 rfl (lv_at hl 1 rfl) ?_
  refine csS (n := 1) (As := [.int a0]) (rest := []) ⟨hx, hb, hml, hown, hts⟩ uc_in (kX10_isSlot_0 l D C A u1 hI a0 A0 ha0) q_m1320 q_s1321 q_i11 q_c1322 hvX10_isSlot ⟨(Nat.le_of_ble_eq_true rfl), (Nat.le_of_ble_eq_true rfl)⟩ ⟨(Nat.le_of_ble_eq_true rfl), (Nat.le_of_ble_eq_true rfl)⟩ hK hH.1 rfl hl.1 rfl (Nat.le_of_ble_eq_true rfl) dX10_goes_6 (fun r2 p3 => ?_)
  rcases p3 with ⟨e9, f4, f5⟩ | ⟨e9, fn6⟩
  · subst e9
    refine lv_if_eq (tgt := 28) hx hb dX10_goes_9 (by decide) (fun c7 => absurd c7 (by decide)) (fun c7 => ?_)
    refine lv_aload_n hx hb dX10_goes_12 rfl (lv_at hl 0 rfl) ?_
    refine cvS (n := 0) (As := []) (rest := []) ⟨hx, hb, hml, hown, hts⟩ uc_in (kX10_isTown_0 l D C A u1 hI ) q_m1554 q_n1556 q_p84 q_i11 q_c1557 hvX10_isTown ⟨(Nat.le_of_ble_eq_true rfl), (Nat.le_of_ble_eq_true rfl)⟩ ⟨(Nat.le_of_ble_eq_true rfl), (Nat.le_of_ble_eq_true rfl)⟩ hK hH.1 10 0 rfl (mwc0 C A u1) rfl hl.1 rfl (Nat.le_of_ble_eq_true rfl) dX10_goes_13 (fun r8 p9 => ?_)
    have p9 : 0 ≤ r8.toInt ∧ r8.toInt ≤ 1 := p9
    refine lv_if_eq (tgt := 28) hx hb dX10_goes_16 (by decide) (fun c10 => ?_) (fun c10 => ?_)
    · have c10 := cEQ (x := r8) (y := 0) (X := r8.toInt) (Y := 0) rfl (by decide) c10
      refine lv_bipush (v := (-2)) hx hb dX10_goes_28 (by decide) ?_
      exact hret _ _ _ _ ((-2) : Int32) _ dX10_goes_30 rfl ⟨hI, (Un.si Un.rf rfl eu1), trivial⟩ hH
    · have c10 := cNE (x := r8) (y := 0) (X := r8.toInt) (Y := 0) rfl (by decide) c10
      refine lv_aload_n hx hb dX10_goes_19 rfl (lv_at hl 0 rfl) ?_
      refine lv_iload_n hx hb dX10_goes_20 rfl (lv_at hl 2 rfl) ?_
      refine lv_i2l (v := a1.toInt64) hx hb dX10_goes_21 rfl ?_
      refine cvS (n := 1) (As := [.long a1.toInt64]) (rest := []) ⟨hx, hb, hml, hown, hts⟩ uc_in (kX10_isDay_0 l D C A u1 hI a1.toInt64 A1 (tt_i2l ha1)) q_m1473 q_n1475 q_p73 q_i11 q_c1476 hvX10_isDay ⟨(Nat.le_of_ble_eq_true rfl), (Nat.le_of_ble_eq_true rfl)⟩ ⟨(Nat.le_of_ble_eq_true rfl), (Nat.le_of_ble_eq_true rfl)⟩ hK hH.1 10 0 rfl (mwc0 C A u1) rfl hl.1 rfl (Nat.le_of_ble_eq_true rfl) dX10_goes_22 (fun r11 p12 => ?_)
      rcases p12 with ⟨e9, f13, f14⟩ | e9
      · subst e9
        have b16 : 0 ≤ ((ga u1 7 0)).toInt ∧ ((ga u1 7 0)).toInt ≤ 7 := hI.has 0
        refine lv_if_ne (tgt := 31) hx hb dX10_goes_25 (by decide) (fun c17 => ?_) (fun c17 => absurd c17 (by decide))
        refine lv_aload_n hx hb dX10_goes_31 rfl (lv_at hl 0 rfl) ?_
        refine va_get (ci := 10) (v := .ref (A 1)) (C := RX10) (T := TX10) (N := 42) hx hb hts (fun w h => uc_in w (inX10 w h)) hown hK hH.1 0 (mwc0 C A u1) rfl 1 (by decide) (hts _ (uc_in _ q_f1189)) (fun _ h9 => h9) rfl dX10_goes_32 ?_
        refine lv_iload_n hx hb dX10_goes_35 rfl (lv_at hl 1 rfl) ?_
        refine va_iald hx hb hK hH.1 1 1 (mwc1 C A u1) rfl (i_ix ha0 (by omega) (by omega)) dX10_goes_36 ?_
        have b18 : (-1) ≤ ((ga u1 1 (Int32.toNatClampNeg a0))).toInt ∧ ((ga u1 1 (Int32.toNatClampNeg a0))).toInt ≤ 3 := hI.a1 _
        refine lv_iconst (v := (-1)) hx hb dX10_goes_37 (by decide) ?_
        refine lv_icmp_ne (tgt := 44) hx hb dX10_goes_38 (by decide) (fun c19 => ?_) (fun c19 => ?_)
        · have c19 := cNE (x := (ga u1 1 (Int32.toNatClampNeg a0))) (y := (-1)) (X := ((ga u1 1 (Int32.toNatClampNeg a0))).toInt) (Y := (-1)) rfl (by decide) c19
          refine lv_aload_n hx hb dX10_goes_44 rfl (lv_at hl 0 rfl) ?_
          refine cvU (n := 0) (As := []) (rest := []) ⟨hx, hb, hml, hown, hts⟩ uc_in (kX10_lays_0 l D C A u1 hI  _) q_m1481 q_n1483 q_p75 q_i11 q_c1484 hvX10_lays ⟨(Nat.le_of_ble_eq_true rfl), (Nat.le_of_ble_eq_true rfl)⟩ ⟨(Nat.le_of_ble_eq_true rfl), (Nat.le_of_ble_eq_true rfl)⟩ hK hH (fun q h => Or.inr h) Bl0 (fun _ _ _ => trivial) 10 0 rfl (mwc0 C A u1) rfl hl.1 rfl (Nat.le_of_ble_eq_true rfl) dX10_goes_45 (fun u20 H locs p22 hH => ?_)
          obtain ⟨hI, hUu20, p22⟩ := p22
          refine lv_aload_n hx hb dX10_goes_48 rfl (lv_at hl 0 rfl) ?_
          refine lv_iload_n hx hb dX10_goes_49 rfl (lv_at hl 2 rfl) ?_
          refine cvS (n := 1) (As := [.int a1]) (rest := []) ⟨hx, hb, hml, hown, hts⟩ uc_in (kX10_countsOf_0 l D C A u20 hI a1 A1 ha1 (by omega) (by omega)) q_m1500 q_n1502 q_p78 q_i11 q_c1503 hvX10_countsOf ⟨(Nat.le_of_ble_eq_true rfl), (Nat.le_of_ble_eq_true rfl)⟩ ⟨(Nat.le_of_ble_eq_true rfl), (Nat.le_of_ble_eq_true rfl)⟩ hK hH.1 10 0 rfl (mwc0 C A u20) rfl hl.1 rfl (Nat.le_of_ble_eq_true rfl) dX10_goes_50 (fun r23 p24 => ?_)
          have g25 : (ga u20 7 3).toInt ≤ 6 := (hI.has 3).2
          have br23 : 0 ≤ r23.toInt ∧ r23.toInt ≤ 63 := ⟨p24.1, p24.2.1⟩
          refine lv_istore_n (lv' := [(3, .int r23), (0, .ref (A 0)), (1, .int a0), (2, .int a1)]) hx hb dX10_goes_53 rfl hl (by decide) rfl (fun ls hl => ?_)
          refine lv_aload_n hx hb dX10_goes_54 rfl (lv_at hl 1 rfl) ?_
          refine va_get (ci := 10) (v := .ref (A 2)) (C := RX10) (T := TX10) (N := 42) hx hb hts (fun w h => uc_in w (inX10 w h)) hown hK hH.1 0 (mwc0 C A u20) rfl 2 (by decide) (hts _ (uc_in _ q_f1190)) (fun _ h9 => h9) rfl dX10_goes_55 ?_
          refine lv_iload_n hx hb dX10_goes_58 rfl (lv_at hl 2 rfl) ?_
          refine va_iald hx hb hK hH.1 2 1 (mwc2 C A u20) rfl (i_ix ha0 (by omega) (by omega)) dX10_goes_59 ?_
          have b26 : 0 ≤ ((ga u20 2 (Int32.toNatClampNeg a0))).toInt ∧ ((ga u20 2 (Int32.toNatClampNeg a0))).toInt ≤ 60 := hI.a2 _
          refine lv_iload_n hx hb dX10_goes_60 rfl (lv_at hl 0 rfl) ?_
          refine csS (n := 1) (As := [.int r23]) (rest := [.int (ga u20 2 (Int32.toNatClampNeg a0))]) ⟨hx, hb, hml, hown, hts⟩ uc_in (kX10_sizeOf_0 l D C A u20 hI r23 r23.toInt rfl) q_m1582 q_s1583 q_i11 q_c1584 hvX10_sizeOf ⟨(Nat.le_of_ble_eq_true rfl), (Nat.le_of_ble_eq_true rfl)⟩ ⟨(Nat.le_of_ble_eq_true rfl), (Nat.le_of_ble_eq_true rfl)⟩ hK hH.1 rfl hl.1 rfl (Nat.le_of_ble_eq_true rfl) dX10_goes_61 (fun r27 p28 => ?_)
          have p28 := p28 (by omega) (by omega)
          have br27 := pc_bd p28
          refine lv_icmp_eq (tgt := 70) hx hb dX10_goes_64 (by decide) (fun c29 => ?_) (fun c29 => ?_)
          · have c29 := cEQ (x := (ga u20 2 (Int32.toNatClampNeg a0))) (y := r27) (X := ((ga u20 2 (Int32.toNatClampNeg a0))).toInt) (Y := r27.toInt) rfl rfl c29
            refine lv_aload_n hx hb dX10_goes_70 rfl (lv_at hl 1 rfl) ?_
            refine va_get (ci := 10) (v := .ref (A 7)) (C := RX10) (T := TX10) (N := 42) hx hb hts (fun w h => uc_in w (inX10 w h)) hown hK hH.1 0 (mwc0 C A u20) rfl 17 (by decide) (hts _ (uc_in _ q_f1205)) (fun _ h9 => h9) rfl dX10_goes_71 ?_
            refine lv_iconst (v := 1) hx hb dX10_goes_74 (by decide) ?_
            refine va_iald hx hb hK hH.1 7 1 (mwc7 C A u20) rfl (i_ix (X := 1) (by decide) (by decide) (by decide)) dX10_goes_75 ?_
            refine pv_i (v := (ga u20 7 1)) rfl ?_
            have b30 : 0 ≤ ((ga u20 7 1)).toInt ∧ ((ga u20 7 1)).toInt ≤ 9 := hI.has 1
            refine lv_istore (lv' := [(4, .int (ga u20 7 1)), (3, .int r23), (0, .ref (A 0)), (1, .int a0), (2, .int a1)]) hx hb dX10_goes_76 hl (by decide) rfl (fun ls hl => ?_)
            refine lv_iconst (v := 0) hx hb dX10_goes_78 (by decide) ?_
            refine lv_istore (lv' := [(5, .int 0), (4, .int (ga u20 7 1)), (3, .int r23), (0, .ref (A 0)), (1, .int a0), (2, .int a1)]) hx hb dX10_goes_79 hl (by decide) rfl (fun ls hl => ?_)
            refine lv_iconst (v := 0) hx hb dX10_goes_81 (by decide) ?_
            refine lv_istore (lv' := [(6, .int 0), (5, .int 0), (4, .int (ga u20 7 1)), (3, .int r23), (0, .ref (A 0)), (1, .int a0), (2, .int a1)]) hx hb dX10_goes_82 hl (by decide) rfl (fun ls hl => ?_)
            have lp84_219 : ∀ (n84 : Nat) (ls : Array Slot) (y216d : Int32) (y217d : Int32) (y218d : Int32) (y219d : Int32), 0 ≤ y216d.toInt → y216d.toInt ≤ 6 → 0 ≤ y219d.toInt → y219d.toInt ≤ 63 → 6 - y216d.toInt < (n84 : Int) → lv_has ls 9 [(6, .int y216d), (5, .int y217d), (4, .int y218d), (3, .int y219d), (0, .ref (A 0)), (1, .int a0), (2, .int a1)] → W p l e (rmL 4 0 0) s m ar below meth c H locs 0 0 Q (F0 m 84 ls []) := by
              intro n84
              induction n84 with
              | zero => intro ls y216d y217d y218d y219d ly216d my216d ly219d my219d hmun84 hl; exfalso; omega
              | succ n84 ih84_219 =>
                intro ls y216d y217d y218d y219d ly216d my216d ly219d my219d hmun84 hl
                refine lv_iload hx hb dX10_goes_84 (lv_at hl 0 rfl) ?_
                refine lv_aload_n hx hb dX10_goes_86 rfl (lv_at hl 4 rfl) ?_
                refine va_get (ci := 10) (v := .ref (A 2)) (C := RX10) (T := TX10) (N := 42) hx hb hts (fun w h => uc_in w (inX10 w h)) hown hK hH.1 0 (mwc0 C A u20) rfl 2 (by decide) (hts _ (uc_in _ q_f1190)) (fun _ h9 => h9) rfl dX10_goes_87 ?_
                refine lv_iload_n hx hb dX10_goes_90 rfl (lv_at hl 5 rfl) ?_
                refine va_iald hx hb hK hH.1 2 1 (mwc2 C A u20) rfl (i_ix ha0 (by omega) (by omega)) dX10_goes_91 ?_
                refine pv_i (v := (ga u20 2 (Int32.toNatClampNeg a0))) rfl ?_
                refine lv_icmp_ge (tgt := 173) hx hb dX10_goes_92 (by decide) (fun c221 => ?_) (fun c221 => ?_)
                · have c221 := cLE (x := (ga u20 2 (Int32.toNatClampNeg a0))) (y := y216d) (X := ((ga u20 2 (Int32.toNatClampNeg a0))).toInt) (Y := y216d.toInt) rfl rfl c221
                  refine lv_iload hx hb dX10_goes_173 (lv_at hl 1 rfl) ?_
                  refine lv_sipush (v := 10000) hx hb dX10_goes_175 (by decide) ?_
                  refine lv_icmp_lt (tgt := 187) hx hb dX10_goes_178 (by decide) (fun c222 => ?_) (fun c222 => ?_)
                  · have c222 := cLT (x := y217d) (y := 10000) (X := y217d.toInt) (Y := 10000) rfl (by decide) c222
                    refine lv_iload hx hb dX10_goes_187 (lv_at hl 1 rfl) ?_
                    exact hret _ _ _ _ y217d _ dX10_goes_189 rfl ⟨hI, (Un.tr (Un.si Un.rf rfl eu1) hUu20 rfl rfl rfl), trivial⟩ hH
                  · have c222 := cNLT (x := y217d) (y := 10000) (X := y217d.toInt) (Y := 10000) rfl (by decide) c222
                    refine lv_sipush (v := 10000) hx hb dX10_goes_181 (by decide) ?_
                    refine lv_goto (tgt := 189) hx hb dX10_goes_184 (by decide) ?_
                    exact hret _ _ _ _ (10000 : Int32) _ dX10_goes_189 rfl ⟨hI, (Un.tr (Un.si Un.rf rfl eu1) hUu20 rfl rfl rfl), trivial⟩ hH
                · have c221 := cNLE (x := (ga u20 2 (Int32.toNatClampNeg a0))) (y := y216d) (X := ((ga u20 2 (Int32.toNatClampNeg a0))).toInt) (Y := y216d.toInt) rfl rfl c221
                  refine lv_aload_n hx hb dX10_goes_95 rfl (lv_at hl 4 rfl) ?_
                  refine va_get (ci := 10) (v := .ref (A 3)) (C := RX10) (T := TX10) (N := 42) hx hb hts (fun w h => uc_in w (inX10 w h)) hown hK hH.1 0 (mwc0 C A u20) rfl 3 (by decide) (hts _ (uc_in _ q_f1191)) (fun _ h9 => h9) rfl dX10_goes_96 ?_
                  refine lv_bipush (v := 60) hx hb dX10_goes_99 (by decide) ?_
                  refine lv_iload_n hx hb dX10_goes_101 rfl (lv_at hl 5 rfl) ?_
                  refine lv_imul hx hb dX10_goes_102 ?_
                  refine p_nm (tt_mul (X := 60) (Y := A0) (by decide) ha0 (by omega) (by omega)) (fun z223 hz223 => ?_)
                  refine lv_iload hx hb dX10_goes_103 (lv_at hl 0 rfl) ?_
                  refine lv_iadd hx hb dX10_goes_105 ?_
                  refine p_nm (tt_add (X := (60 * A0)) (Y := y216d.toInt) hz223 rfl (by omega) (by omega)) (fun z224 hz224 => ?_)
                  refine va_lald hx hb hK hH.1 3 2 (mwc3 C A u20) rfl (i_ix hz224 (by omega) (by omega)) dX10_goes_106 ?_
                  refine p_anyl (fun z225 => ?_)
                  refine lv_lstore (lv' := [(7, .long z225), (6, .int y216d), (5, .int y217d), (4, .int y218d), (3, .int y219d), (0, .ref (A 0)), (1, .int a0), (2, .int a1)]) hx hb dX10_goes_107 hl (by decide) rfl (fun ls hl => ?_)
                  refine lv_aload_n hx hb dX10_goes_109 rfl (lv_at hl 5 rfl) ?_
                  refine lv_lload hx hb dX10_goes_110 (lv_at hl 0 rfl) ?_
                  refine cvS (n := 1) (As := [.long z225]) (rest := []) ⟨hx, hb, hml, hown, hts⟩ uc_in (kX10_isClock_0 l D C A u20 hI z225 z225.toInt rfl) q_m1460 q_n1462 q_p71 q_i11 q_c1463 hvX10_isClock ⟨(Nat.le_of_ble_eq_true rfl), (Nat.le_of_ble_eq_true rfl)⟩ ⟨(Nat.le_of_ble_eq_true rfl), (Nat.le_of_ble_eq_true rfl)⟩ hK hH.1 10 0 rfl (mwc0 C A u20) rfl hl.1 rfl (Nat.le_of_ble_eq_true rfl) dX10_goes_112 (fun r226 p227 => ?_)
                  rcases p227 with ⟨e9, f228, f229⟩ | e9
                  · subst e9
                    have b231 : 0 ≤ ((ga u20 7 3)).toInt ∧ ((ga u20 7 3)).toInt ≤ 6 := hI.has 3
                    refine lv_if_eq (tgt := 128) hx hb dX10_goes_115 (by decide) (fun c232 => absurd c232 (by decide)) (fun c232 => ?_)
                    refine lv_iload_n hx hb dX10_goes_118 rfl (lv_at hl 4 rfl) ?_
                    refine lv_lload hx hb dX10_goes_119 (lv_at hl 0 rfl) ?_
                    refine lv_l2i hx hb dX10_goes_121 rfl ?_
                    refine p_nm (tt_l2i rfl (by omega) (by omega)) (fun z233 hz233 => ?_)
                    refine csS (n := 2) (As := [.int y219d, .int z233]) (rest := []) ⟨hx, hb, hml, hown, hts⟩ uc_in (kX10_isBit_0 l D C A u20 hI y219d y219d.toInt rfl z233 z225.toInt hz233) q_m1489 q_s1490 q_i11 q_c1491 hvX10_isBit ⟨(Nat.le_of_ble_eq_true rfl), (Nat.le_of_ble_eq_true rfl)⟩ ⟨(Nat.le_of_ble_eq_true rfl), (Nat.le_of_ble_eq_true rfl)⟩ hK hH.1 rfl hl.1 rfl (Nat.le_of_ble_eq_true rfl) dX10_goes_122 (fun r234 p235 => ?_)
                    have p235 : 0 ≤ r234.toInt ∧ r234.toInt ≤ 1 := by rcases p235 with ⟨e9, -⟩ | ⟨e9, -⟩ <;> rw [e9] <;> decide
                    refine lv_if_ne (tgt := 131) hx hb dX10_goes_125 (by decide) (fun c236 => ?_) (fun c236 => ?_)
                    · have c236 := cNE (x := r234) (y := 0) (X := r234.toInt) (Y := 0) rfl (by decide) c236
                      refine lv_iload_n hx hb dX10_goes_131 rfl (lv_at hl 4 rfl) ?_
                      refine lv_iconst (v := 1) hx hb dX10_goes_132 (by decide) ?_
                      refine lv_lload hx hb dX10_goes_133 (lv_at hl 0 rfl) ?_
                      refine lv_l2i hx hb dX10_goes_135 rfl ?_
                      refine p_nm (tt_l2i rfl (by omega) (by omega)) (fun z237 hz237 => ?_)
                      refine lv_ishl hx hb dX10_goes_136 ?_
                      have gz238 := tt_shl1 (y := z237) (Y := z225.toInt) hz237 (by omega) (by omega)
                      refine p_bd (P := fun q => 1 ≤ q ∧ q ≤ 32) ⟨by omega, by omega⟩ (fun z239 bz239 => ?_)
                      have bz239 : 1 ≤ z239.toInt ∧ z239.toInt ≤ 32 := bz239
                      refine lv_iconst (v := (-1)) hx hb dX10_goes_137 (by decide) ?_
                      refine lv_ixor hx hb dX10_goes_138 ?_
                      refine p_any (fun z240 => ?_)
                      refine lv_iand hx hb dX10_goes_139 ?_
                      have gz241 := tt_andL (x := y219d) (y := z240) (X := y219d.toInt) rfl (by omega)
                      refine p_bd (P := fun q => 0 ≤ q ∧ q ≤ 63) ⟨by omega, by omega⟩ (fun z242 bz242 => ?_)
                      have bz242 : 0 ≤ z242.toInt ∧ z242.toInt ≤ 63 := bz242
                      refine lv_istore_n (lv' := [(3, .int z242), (7, .long z225), (6, .int y216d), (5, .int y217d), (4, .int y218d), (0, .ref (A 0)), (1, .int a0), (2, .int a1)]) hx hb dX10_goes_140 rfl hl (by decide) rfl (fun ls hl => ?_)
                      refine lv_aload_n hx hb dX10_goes_141 rfl (lv_at hl 5 rfl) ?_
                      refine lv_iload_n hx hb dX10_goes_142 rfl (lv_at hl 7 rfl) ?_
                      refine lv_iload hx hb dX10_goes_143 (lv_at hl 4 rfl) ?_
                      refine lv_iload hx hb dX10_goes_145 (lv_at hl 3 rfl) ?_
                      refine lv_lload hx hb dX10_goes_147 (lv_at hl 1 rfl) ?_
                      refine lv_l2i hx hb dX10_goes_149 rfl ?_
                      refine p_nm (tt_l2i rfl (by omega) (by omega)) (fun z243 hz243 => ?_)
                      refine cvS (n := 4) (As := [.int a1, .int y218d, .int y217d, .int z243]) (rest := []) ⟨hx, hb, hml, hown, hts⟩ uc_in (kX10_hears_0 l D C A u20 hI a1 A1 ha1 y218d y218d.toInt rfl y217d y217d.toInt rfl z243 z225.toInt hz243 (by omega) (by omega) (by omega) (by omega)) q_m1723 q_n1725 q_p98 q_i11 q_c1726 hvX10_hears ⟨(Nat.le_of_ble_eq_true rfl), (Nat.le_of_ble_eq_true rfl)⟩ ⟨(Nat.le_of_ble_eq_true rfl), (Nat.le_of_ble_eq_true rfl)⟩ hK hH.1 10 0 rfl (mwc0 C A u20) rfl hl.1 rfl (Nat.le_of_ble_eq_true rfl) dX10_goes_150 (fun r244 p245 => ?_)
                      refine lv_istore (lv' := [(5, .int r244), (3, .int z242), (7, .long z225), (6, .int y216d), (4, .int y218d), (0, .ref (A 0)), (1, .int a0), (2, .int a1)]) hx hb dX10_goes_153 hl (by decide) rfl (fun ls hl => ?_)
                      refine lv_aload_n hx hb dX10_goes_155 rfl (lv_at hl 5 rfl) ?_
                      refine va_get (ci := 10) (v := .ref (A 8)) (C := RX10) (T := TX10) (N := 42) hx hb hts (fun w h => uc_in w (inX10 w h)) hown hK hH.1 0 (mwc0 C A u20) rfl 18 (by decide) (hts _ (uc_in _ q_f1206)) (fun _ h9 => h9) rfl dX10_goes_156 ?_
                      refine lv_iconst (v := 5) hx hb dX10_goes_159 (by decide) ?_
                      refine lv_lload hx hb dX10_goes_160 (lv_at hl 2 rfl) ?_
                      refine lv_l2i hx hb dX10_goes_162 rfl ?_
                      refine p_nm (tt_l2i rfl (by omega) (by omega)) (fun z246 hz246 => ?_)
                      refine lv_imul hx hb dX10_goes_163 ?_
                      refine p_nm (tt_mul (X := 5) (Y := z225.toInt) (by decide) hz246 (by omega) (by omega)) (fun z247 hz247 => ?_)
                      refine va_iald hx hb hK hH.1 8 1 (mwc8 C A u20) rfl (i_ix hz247 (by omega) (by omega)) dX10_goes_164 ?_
                      refine p_any (fun z248 => ?_)
                      refine lv_istore (lv' := [(4, .int z248), (5, .int r244), (3, .int z242), (7, .long z225), (6, .int y216d), (0, .ref (A 0)), (1, .int a0), (2, .int a1)]) hx hb dX10_goes_165 hl (by decide) rfl (fun ls hl => ?_)
                      obtain ⟨z249, ez249⟩ : ∃ z, z = y216d + Int32.ofInt 1 := ⟨_, rfl⟩
                      have hz249 : z249.toInt = y216d.toInt + 1 := by rw [ez249]; exact tt_add rfl (by decide) (by omega) (by omega)
                      refine lv_iinc (v := z249) (lv' := [(6, .int z249), (4, .int z248), (5, .int r244), (3, .int z242), (7, .long z225), (0, .ref (A 0)), (1, .int a0), (2, .int a1)]) hx hb dX10_goes_167 hl (k := 4) rfl ez249.symm (by decide) rfl (fun ls hl => ?_)
                      refine lv_goto (tgt := 84) hx hb dX10_goes_170 (by decide) ?_
                      exact ih84_219 ls z249 r244 z248 z242 (by have q9 := (show z249.toInt = (y216d.toInt + 1) from hz249); omega) (by have q9 := (show z249.toInt = (y216d.toInt + 1) from hz249); omega) (by omega) (by omega) (by have q9 := (show z249.toInt = (y216d.toInt + 1) from hz249); omega) (lv_sub hl [0, 2, 1, 3, 5, 6, 7] rfl)
                    · have c236 := cEQ (x := r234) (y := 0) (X := r234.toInt) (Y := 0) rfl (by decide) c236
                      refine lv_bipush (v := (-2)) hx hb dX10_goes_128 (by decide) ?_
                      exact hret _ _ _ _ ((-2) : Int32) _ dX10_goes_130 rfl ⟨hI, (Un.tr (Un.si Un.rf rfl eu1) hUu20 rfl rfl rfl), trivial⟩ hH
                  · subst e9
                    refine lv_if_eq (tgt := 128) hx hb dX10_goes_115 (by decide) (fun c250 => ?_) (fun c250 => absurd c250 (by decide))
                    refine lv_bipush (v := (-2)) hx hb dX10_goes_128 (by decide) ?_
                    exact hret _ _ _ _ ((-2) : Int32) _ dX10_goes_130 rfl ⟨hI, (Un.tr (Un.si Un.rf rfl eu1) hUu20 rfl rfl rfl), trivial⟩ hH
            exact lp84_219 7 ls 0 0 (ga u20 7 1) r23 (by decide) (by decide) (by omega) (by omega) (by have q9 : (0 : Int32).toInt = 0 := (by decide); omega) hl
          · refine lv_bipush (v := (-2)) hx hb dX10_goes_67 (by decide) ?_
            exact hret _ _ _ _ ((-2) : Int32) _ dX10_goes_69 rfl ⟨hI, (Un.tr (Un.si Un.rf rfl eu1) hUu20 rfl rfl rfl), trivial⟩ hH
        · have c19 := cEQ (x := (ga u1 1 (Int32.toNatClampNeg a0))) (y := (-1)) (X := ((ga u1 1 (Int32.toNatClampNeg a0))).toInt) (Y := (-1)) rfl (by decide) c19
          refine lv_bipush (v := (-6)) hx hb dX10_goes_41 (by decide) ?_
          exact hret _ _ _ _ ((-6) : Int32) _ dX10_goes_43 rfl ⟨hI, (Un.si Un.rf rfl eu1), trivial⟩ hH
      · subst e9
        refine lv_if_ne (tgt := 31) hx hb dX10_goes_25 (by decide) (fun c251 => absurd c251 (by decide)) (fun c251 => ?_)
        refine lv_bipush (v := (-2)) hx hb dX10_goes_28 (by decide) ?_
        exact hret _ _ _ _ ((-2) : Int32) _ dX10_goes_30 rfl ⟨hI, (Un.si Un.rf rfl eu1), trivial⟩ hH
  · subst e9
    refine lv_if_eq (tgt := 28) hx hb dX10_goes_9 (by decide) (fun c252 => ?_) (fun c252 => absurd c252 (by decide))
    refine lv_bipush (v := (-2)) hx hb dX10_goes_28 (by decide) ?_
    exact hret _ _ _ _ ((-2) : Int32) _ dX10_goes_30 rfl ⟨hI, (Un.si Un.rf rfl eu1), trivial⟩ hH
set_option maxHeartbeats 4000000 in
set_option maxRecDepth 100000 in
theorem kX10_gone_0 (l : Launch) (D : va_G) (C : Nat → ClassId) (A : Nat → Nat) (u : St) (hI : IM u) (a0 : Int32) (A0 : Int) (ha0 : a0.toInt = A0) (sz : Nat) : MetI l yX10_gone cX10_gone 3 (some .int) 5 [.ref (A 0), .int a0] D (tyl C) (mw C A) X0 u sz (fun r u' => IM u' ∧ Un [(0, 0), (24, 24), (25, 25), (39, 39), (40, 40)] [(12, 12), (13, 13), (18, 18)] [] u u' ∧ (True)) := by
  refine mI (by decide) (Nat.le_of_ble_eq_true rfl) ?_
  intro p e s m below meth c ls ar Q hx hb hml hown hts hK hH hX hl hret
  have hown : s.vm.findClass RX10 = some m.cls := hown
  have hl : lv_has ls 3 [(0, .ref (A 0)), (1, .int a0)] := hl
  refine lv_aload_n hx hb dX10_gone_0 rfl (lv_at hl 0 rfl) ?_
  refine lv_iconst (v := 0) hx hb dX10_gone_1 (by decide) ?_
  refine r_put (j := 0) (ci := 10) (C := RX10) (T := TX10) (N := 42) hx hb hts (fun w h => uc_in w (inX10 w h)) tyX10 tyX10_ok nmX10 hown hK hH 0 (mwc0 C A u) rfl 0 (by decide) (hts _ (uc_in _ q_f1188)) (fun _ h9 => h9) rfl (by decide +kernel) (Nat.le_of_ble_eq_true rfl) (mws0 C A u _) dX10_gone_2 (fun u1 eu1 H locs hH => ?_)
  have hI := hI.pi0 eu1 rfl
  refine lv_aload_n hx hb dX10_gone_5 rfl (lv_at hl 0 rfl) ?_
  refine lv_iload_n hx hb dX10_gone_6 rfl (lv_at hl 1 rfl) ?_
  refine cvS (n := 1) (As := [.int a0]) (rest := []) ⟨hx, hb, hml, hown, hts⟩ uc_in (kX10_whyNot_0 l D C A u1 hI a0 A0 ha0) q_m1788 q_n1790 q_p104 q_i11 q_c1791 hvX10_whyNot ⟨(Nat.le_of_ble_eq_true rfl), (Nat.le_of_ble_eq_true rfl)⟩ ⟨(Nat.le_of_ble_eq_true rfl), (Nat.le_of_ble_eq_true rfl)⟩ hK hH.1 10 0 rfl (mwc0 C A u1) rfl hl.1 rfl (Nat.le_of_ble_eq_true rfl) dX10_gone_7 (fun r2 p3 => ?_)
  rcases p3 with p3 | ⟨e9, f4, f5, f6⟩
  · have p3 := p3
    refine lv_istore_n (lv' := [(2, .int r2), (0, .ref (A 0)), (1, .int a0)]) hx hb dX10_gone_10 rfl hl (by decide) rfl (fun ls hl => ?_)
    refine lv_iload_n hx hb dX10_gone_11 rfl (lv_at hl 0 rfl) ?_
    refine lv_if_eq (tgt := 17) hx hb dX10_gone_12 (by decide) (fun c7 => absurd (cEQ (x := r2) (y := 0) (X := r2.toInt) (Y := 0) rfl (by decide) c7) (by omega)) (fun c7 => ?_)
    refine lv_iload_n hx hb dX10_gone_15 rfl (lv_at hl 0 rfl) ?_
    exact hret _ _ _ _ r2 _ dX10_gone_16 rfl ⟨hI, (Un.si Un.rf rfl eu1), trivial⟩ hH
  · subst e9
    refine lv_istore_n (lv' := [(2, .int 0), (0, .ref (A 0)), (1, .int a0)]) hx hb dX10_gone_10 rfl hl (by decide) rfl (fun ls hl => ?_)
    refine lv_iload_n hx hb dX10_gone_11 rfl (lv_at hl 0 rfl) ?_
    refine lv_if_eq (tgt := 17) hx hb dX10_gone_12 (by decide) (fun c8 => ?_) (fun c8 => absurd c8 (by decide))
    refine lv_aload_n hx hb dX10_gone_17 rfl (lv_at hl 1 rfl) ?_
    refine lv_iload_n hx hb dX10_gone_18 rfl (lv_at hl 2 rfl) ?_
    refine cvU (n := 1) (As := [.int a0]) (rest := []) ⟨hx, hb, hml, hown, hts⟩ uc_in (kX10_laysAway_0 l D C A u1 hI a0 A0 ha0 (by omega) (by omega) f6 _) q_m1792 q_n1794 q_p105 q_i11 q_c1795 hvX10_laysAway ⟨(Nat.le_of_ble_eq_true rfl), (Nat.le_of_ble_eq_true rfl)⟩ ⟨(Nat.le_of_ble_eq_true rfl), (Nat.le_of_ble_eq_true rfl)⟩ hK hH (fun q h => Or.inr h) Bl0 (fun _ _ _ => trivial) 10 0 rfl (mwc0 C A u1) rfl hl.1 rfl (Nat.le_of_ble_eq_true rfl) dX10_gone_19 (fun u9 H locs p11 hH => ?_)
    obtain ⟨hI, hUu9, p11⟩ := p11
    refine lv_aload_n hx hb dX10_gone_22 rfl (lv_at hl 1 rfl) ?_
    refine va_get (ci := 10) (v := .int (gi u9 40)) (C := RX10) (T := TX10) (N := 42) hx hb hts (fun w h => uc_in w (inX10 w h)) hown hK hH.1 0 (mwc0 C A u9) rfl 40 (by decide) (hts _ (uc_in _ q_f1228)) (fun _ h9 => h9) rfl dX10_gone_23 ?_
    exact hret _ _ _ _ (gi u9 40) _ dX10_gone_26 rfl ⟨hI, (Un.tr (Un.si Un.rf rfl eu1) hUu9 rfl rfl rfl), trivial⟩ hH
set_option maxHeartbeats 4000000 in
set_option maxRecDepth 100000 in
theorem kX10_heir_0 (l : Launch) (D : va_G) (C : Nat → ClassId) (A : Nat → Nat) (u : St) (hI : IM u) (a0 : Int32) (A0 : Int) (ha0 : a0.toInt = A0) (sz : Nat) : MetI l yX10_heir cX10_heir 3 (some .int) 4 [.ref (A 0), .int a0] D (tyl C) (mw C A) X0 u sz (fun r u' => IM u' ∧ Un [(0, 0), (24, 24), (25, 25)] [(12, 12), (13, 13)] [] u u' ∧ ((-2) ≤ r.toInt ∧ r.toInt ≤ 5)) := by
  refine mI (by decide) (Nat.le_of_ble_eq_true rfl) ?_
  intro p e s m below meth c ls ar Q hx hb hml hown hts hK hH hX hl hret
  have hown : s.vm.findClass RX10 = some m.cls := hown
  have hl : lv_has ls 3 [(0, .ref (A 0)), (1, .int a0)] := hl
  refine lv_aload_n hx hb dX10_heir_0 rfl (lv_at hl 0 rfl) ?_
  refine lv_iconst (v := 0) hx hb dX10_heir_1 (by decide) ?_
  refine r_put (j := 0) (ci := 10) (C := RX10) (T := TX10) (N := 42) hx hb hts (fun w h => uc_in w (inX10 w h)) tyX10 tyX10_ok nmX10 hown hK hH 0 (mwc0 C A u) rfl 0 (by decide) (hts _ (uc_in _ q_f1188)) (fun _ h9 => h9) rfl (by decide +kernel) (Nat.le_of_ble_eq_true rfl) (mws0 C A u _) dX10_heir_2 (fun u1 eu1 H locs hH => ?_)
  have hI := hI.pi0 eu1 rfl
  refine lv_aload_n hx hb dX10_heir_5 rfl (lv_at hl 0 rfl) ?_
  refine lv_iload_n hx hb dX10_heir_6 rfl (lv_at hl 1 rfl) ?_
  refine lv_i2l (v := a0.toInt64) hx hb dX10_heir_7 rfl ?_
  refine cvS (n := 1) (As := [.long a0.toInt64]) (rest := []) ⟨hx, hb, hml, hown, hts⟩ uc_in (kX10_isDay_0 l D C A u1 hI a0.toInt64 A0 (tt_i2l ha0)) q_m1473 q_n1475 q_p73 q_i11 q_c1476 hvX10_isDay ⟨(Nat.le_of_ble_eq_true rfl), (Nat.le_of_ble_eq_true rfl)⟩ ⟨(Nat.le_of_ble_eq_true rfl), (Nat.le_of_ble_eq_true rfl)⟩ hK hH.1 10 0 rfl (mwc0 C A u1) rfl hl.1 rfl (Nat.le_of_ble_eq_true rfl) dX10_heir_8 (fun r2 p3 => ?_)
  rcases p3 with ⟨e9, f4, f5⟩ | e9
  · subst e9
    have b7 : 0 ≤ ((ga u1 7 0)).toInt ∧ ((ga u1 7 0)).toInt ≤ 7 := hI.has 0
    refine lv_if_ne (tgt := 17) hx hb dX10_heir_11 (by decide) (fun c8 => ?_) (fun c8 => absurd c8 (by decide))
    refine lv_aload_n hx hb dX10_heir_17 rfl (lv_at hl 0 rfl) ?_
    refine cvU (n := 0) (As := []) (rest := []) ⟨hx, hb, hml, hown, hts⟩ uc_in (kX10_lays_0 l D C A u1 hI  _) q_m1481 q_n1483 q_p75 q_i11 q_c1484 hvX10_lays ⟨(Nat.le_of_ble_eq_true rfl), (Nat.le_of_ble_eq_true rfl)⟩ ⟨(Nat.le_of_ble_eq_true rfl), (Nat.le_of_ble_eq_true rfl)⟩ hK hH (fun q h => Or.inr h) Bl0 (fun _ _ _ => trivial) 10 0 rfl (mwc0 C A u1) rfl hl.1 rfl (Nat.le_of_ble_eq_true rfl) dX10_heir_18 (fun u9 H locs p11 hH => ?_)
    obtain ⟨hI, hUu9, p11⟩ := p11
    refine lv_aload_n hx hb dX10_heir_21 rfl (lv_at hl 0 rfl) ?_
    refine lv_iload_n hx hb dX10_heir_22 rfl (lv_at hl 1 rfl) ?_
    refine cvS (n := 1) (As := [.int a0]) (rest := []) ⟨hx, hb, hml, hown, hts⟩ uc_in (kX10_countsOf_0 l D C A u9 hI a0 A0 ha0 (by omega) (by omega)) q_m1500 q_n1502 q_p78 q_i11 q_c1503 hvX10_countsOf ⟨(Nat.le_of_ble_eq_true rfl), (Nat.le_of_ble_eq_true rfl)⟩ ⟨(Nat.le_of_ble_eq_true rfl), (Nat.le_of_ble_eq_true rfl)⟩ hK hH.1 10 0 rfl (mwc0 C A u9) rfl hl.1 rfl (Nat.le_of_ble_eq_true rfl) dX10_heir_23 (fun r12 p13 => ?_)
    have g14 : (ga u9 7 3).toInt ≤ 6 := (hI.has 3).2
    have br12 : 0 ≤ r12.toInt ∧ r12.toInt ≤ 63 := ⟨p13.1, p13.2.1⟩
    refine lv_istore_n (lv' := [(2, .int r12), (0, .ref (A 0)), (1, .int a0)]) hx hb dX10_heir_26 rfl hl (by decide) rfl (fun ls hl => ?_)
    refine lv_iload_n hx hb dX10_heir_27 rfl (lv_at hl 0 rfl) ?_
    refine lv_if_ne (tgt := 35) hx hb dX10_heir_28 (by decide) (fun c15 => ?_) (fun c15 => ?_)
    · have c15 := cNE (x := r12) (y := 0) (X := r12.toInt) (Y := 0) rfl (by decide) c15
      refine lv_aload_n hx hb dX10_heir_35 rfl (lv_at hl 1 rfl) ?_
      refine lv_iload_n hx hb dX10_heir_36 rfl (lv_at hl 2 rfl) ?_
      refine lv_iload_n hx hb dX10_heir_37 rfl (lv_at hl 0 rfl) ?_
      refine lv_iconst (v := 1) hx hb dX10_heir_38 (by decide) ?_
      refine lv_aload_n hx hb dX10_heir_39 rfl (lv_at hl 1 rfl) ?_
      refine lv_iload_n hx hb dX10_heir_40 rfl (lv_at hl 2 rfl) ?_
      refine lv_iload_n hx hb dX10_heir_41 rfl (lv_at hl 0 rfl) ?_
      refine cvS (n := 2) (As := [.int a0, .int r12]) (rest := [.int 1, .int r12, .int a0, .ref (A 0)]) ⟨hx, hb, hml, hown, hts⟩ uc_in (kX10_lastOf_0 l D C A u9 hI a0 A0 ha0 r12 r12.toInt rfl (by omega) (by omega)) q_m1508 q_n1510 q_p80 q_i11 q_c1511 hvX10_lastOf ⟨(Nat.le_of_ble_eq_true rfl), (Nat.le_of_ble_eq_true rfl)⟩ ⟨(Nat.le_of_ble_eq_true rfl), (Nat.le_of_ble_eq_true rfl)⟩ hK hH.1 10 0 rfl (mwc0 C A u9) rfl hl.1 rfl (Nat.le_of_ble_eq_true rfl) dX10_heir_42 (fun r16 p17 => ?_)
      have br16 : -1 ≤ r16.toInt ∧ r16.toInt ≤ 5 := ⟨p17.1, p17.2.1⟩
      refine lv_ishl hx hb dX10_heir_45 ?_
      refine p_any (fun z18 => ?_)
      refine lv_iconst (v := (-1)) hx hb dX10_heir_46 (by decide) ?_
      refine lv_ixor hx hb dX10_heir_47 ?_
      refine p_any (fun z19 => ?_)
      refine lv_iand hx hb dX10_heir_48 ?_
      have gz20 := tt_andL (x := r12) (y := z19) (X := r12.toInt) rfl (by omega)
      refine p_bd (P := fun q => 0 ≤ q ∧ q ≤ 63) ⟨by omega, by omega⟩ (fun z21 bz21 => ?_)
      have bz21 : 0 ≤ z21.toInt ∧ z21.toInt ≤ 63 := bz21
      refine cvS (n := 2) (As := [.int a0, .int z21]) (rest := []) ⟨hx, hb, hml, hown, hts⟩ uc_in (kX10_lastOf_0 l D C A u9 hI a0 A0 ha0 z21 z21.toInt rfl (by omega) (by omega)) q_m1508 q_n1510 q_p80 q_i11 q_c1511 hvX10_lastOf ⟨(Nat.le_of_ble_eq_true rfl), (Nat.le_of_ble_eq_true rfl)⟩ ⟨(Nat.le_of_ble_eq_true rfl), (Nat.le_of_ble_eq_true rfl)⟩ hK hH.1 10 0 rfl (mwc0 C A u9) rfl hl.1 rfl (Nat.le_of_ble_eq_true rfl) dX10_heir_49 (fun r22 p23 => ?_)
      have br22 : -1 ≤ r22.toInt ∧ r22.toInt ≤ 5 := ⟨p23.1, p23.2.1⟩
      exact hret _ _ _ _ r22 _ dX10_heir_52 rfl ⟨hI, (Un.tr (Un.si Un.rf rfl eu1) hUu9 rfl rfl rfl), ⟨by omega, by omega⟩⟩ hH
    · have c15 := cEQ (x := r12) (y := 0) (X := r12.toInt) (Y := 0) rfl (by decide) c15
      refine lv_iconst (v := (-1)) hx hb dX10_heir_31 (by decide) ?_
      refine lv_goto (tgt := 52) hx hb dX10_heir_32 (by decide) ?_
      exact hret _ _ _ _ ((-1) : Int32) _ dX10_heir_52 rfl ⟨hI, (Un.tr (Un.si Un.rf rfl eu1) hUu9 rfl rfl rfl), ⟨by decide, by decide⟩⟩ hH
  · subst e9
    refine lv_if_ne (tgt := 17) hx hb dX10_heir_11 (by decide) (fun c24 => absurd c24 (by decide)) (fun c24 => ?_)
    refine lv_bipush (v := (-2)) hx hb dX10_heir_14 (by decide) ?_
    exact hret _ _ _ _ ((-2) : Int32) _ dX10_heir_16 rfl ⟨hI, (Un.si Un.rf rfl eu1), ⟨by decide, by decide⟩⟩ hH
set_option maxHeartbeats 4000000 in
set_option maxRecDepth 100000 in
theorem kX10_copyRow_15 (l : Launch) (D : va_G) (C : Nat → ClassId) (A : Nat → Nat) (u : St) (hI : IM u) (sz : Nat) : MetV l yX10_copyRow cX10_copyRow 5 1 [.ref (A 6), .int 1, .int 0, .int 1] D (tyl C) (mw C A) X0 u sz (fun u' => IM u' ∧ Un [] [(6, 6)] [] u u' ∧ True) := by
  refine mV (by decide) (Nat.le_of_ble_eq_true rfl) ?_
  intro p e s m below meth c ls ar Q hx hb hml hown hts hK hH hX hl hret
  have hown : s.vm.findClass RX10 = some m.cls := hown
  have hl : lv_has ls 5 [(0, .ref (A 6)), (1, .int 1), (2, .int 0), (3, .int 1)] := hl
  refine lv_iconst (v := 0) hx hb dX10_copyRow_0 (by decide) ?_
  refine lv_istore (lv' := [(4, .int 0), (0, .ref (A 6)), (1, .int 1), (2, .int 0), (3, .int 1)]) hx hb dX10_copyRow_1 hl (by decide) rfl (fun ls hl => ?_)
  have lp3_19 : ∀ (n3 : Nat) (ls : Array Slot) (y18d : Int32) (u19 : St) (H : Heap) (locs : List Loc), 0 ≤ y18d.toInt → y18d.toInt ≤ 1 → 1 - y18d.toInt < (n3 : Int) → Un [] [(6, 6)] [] u u19 → IM u19 → Hd D (mw C A) (va_A (mw C A u) s.heap.size) s.heap u19 H locs → lv_has ls 5 [(4, .int y18d), (0, .ref (A 6)), (1, .int 1), (2, .int 0), (3, .int 1)] → W p l e (rmL 1 0 0) s m ar below meth c H locs 0 0 Q (F0 m 3 ls []) := by
    intro n3
    induction n3 with
    | zero => intro ls y18d u19 H locs ly18d my18d hmun3 hUu19 hI hH hl; exfalso; omega
    | succ n3 ih3_19 =>
      intro ls y18d u19 H locs ly18d my18d hmun3 hUu19 hI hH hl
      refine lv_iload hx hb dX10_copyRow_3 (lv_at hl 0 rfl) ?_
      refine lv_iload_n hx hb dX10_copyRow_5 rfl (lv_at hl 2 rfl) ?_
      refine lv_icmp_ge (tgt := 31) hx hb dX10_copyRow_6 (by decide) (fun c21 => ?_) (fun c21 => ?_)
      · have c21 := cLE (x := 1) (y := y18d) (X := 1) (Y := y18d.toInt) (by decide) rfl c21
        exact hret _ _ _ _ _ dX10_copyRow_31 ⟨hI, (Un.tr Un.rf hUu19 rfl rfl rfl), trivial⟩ hH
      · have c21 := cNLE (x := 1) (y := y18d) (X := 1) (Y := y18d.toInt) (by decide) rfl c21
        refine lv_aload_n hx hb dX10_copyRow_9 rfl (lv_at hl 1 rfl) ?_
        refine lv_iload_n hx hb dX10_copyRow_10 rfl (lv_at hl 2 rfl) ?_
        refine lv_iload_n hx hb dX10_copyRow_11 rfl (lv_at hl 4 rfl) ?_
        refine lv_imul hx hb dX10_copyRow_12 ?_
        refine pv_i (v := 1) (by decide) ?_
        refine lv_iload hx hb dX10_copyRow_13 (lv_at hl 0 rfl) ?_
        refine lv_iadd hx hb dX10_copyRow_15 ?_
        refine p_nm (tt_add (X := 1) (Y := y18d.toInt) (by decide) rfl (by omega) (by omega)) (fun z22 hz22 => ?_)
        refine lv_aload_n hx hb dX10_copyRow_16 rfl (lv_at hl 1 rfl) ?_
        refine lv_iload_n hx hb dX10_copyRow_17 rfl (lv_at hl 2 rfl) ?_
        refine lv_iload_n hx hb dX10_copyRow_18 rfl (lv_at hl 3 rfl) ?_
        refine lv_imul hx hb dX10_copyRow_19 ?_
        refine pv_i (v := 0) (by decide) ?_
        refine lv_iload hx hb dX10_copyRow_20 (lv_at hl 0 rfl) ?_
        refine lv_iadd hx hb dX10_copyRow_22 ?_
        refine p_nm (tt_add (X := 0) (Y := y18d.toInt) (by decide) rfl (by omega) (by omega)) (fun z23 hz23 => ?_)
        refine va_iald hx hb hK hH.1 6 1 (mwc6 C A u19) rfl (i_ix hz23 (by omega) (by omega)) dX10_copyRow_23 ?_
        refine p_any (fun z24 => ?_)
        refine r_iast (j := 6) hx hb hK hH 6 1 (mwc6 C A u19) rfl (i_ix hz22 (by omega) (by omega)) (mwa6 C A u19) dX10_copyRow_24 (fun u25 eu25 H locs hH => ?_)
        have hI := hI.pa0 eu25 (by decide) (by decide) (by decide)
        obtain ⟨z26, ez26⟩ : ∃ z, z = y18d + Int32.ofInt 1 := ⟨_, rfl⟩
        have hz26 : z26.toInt = y18d.toInt + 1 := by rw [ez26]; exact tt_add rfl (by decide) (by omega) (by omega)
        refine lv_iinc (v := z26) (lv' := [(4, .int z26), (0, .ref (A 6)), (1, .int 1), (2, .int 0), (3, .int 1)]) hx hb dX10_copyRow_25 hl (k := 0) rfl ez26.symm (by decide) rfl (fun ls hl => ?_)
        refine lv_goto (tgt := 3) hx hb dX10_copyRow_28 (by decide) ?_
        exact ih3_19 ls z26 u25 _ _ (by have q9 := (show z26.toInt = (y18d.toInt + 1) from hz26); omega) (by have q9 := (show z26.toInt = (y18d.toInt + 1) from hz26); omega) (by have q9 := (show z26.toInt = (y18d.toInt + 1) from hz26); omega) (Un.sa hUu19 rfl eu25) hI hH hl
  exact lp3_19 2 ls 0 u _ _ (by decide) (by decide) (by have q9 : (0 : Int32).toInt = 0 := (by decide); omega) Un.rf hI hH hl
set_option maxHeartbeats 4000000 in
set_option maxRecDepth 100000 in
theorem kX10_copyRow_16 (l : Launch) (D : va_G) (C : Nat → ClassId) (A : Nat → Nat) (u : St) (hI : IM u) (sz : Nat) : MetV l yX10_copyRow cX10_copyRow 5 1 [.ref (A 7), .int 6, .int 0, .int 1] D (tyl C) (mw C A) X0 u sz (fun u' => IM u' ∧ Un [] [(7, 7)] [] u u' ∧ True) := by
  refine mV (by decide) (Nat.le_of_ble_eq_true rfl) ?_
  intro p e s m below meth c ls ar Q hx hb hml hown hts hK hH hX hl hret
  have hown : s.vm.findClass RX10 = some m.cls := hown
  have hl : lv_has ls 5 [(0, .ref (A 7)), (1, .int 6), (2, .int 0), (3, .int 1)] := hl
  refine lv_iconst (v := 0) hx hb dX10_copyRow_0 (by decide) ?_
  refine lv_istore (lv' := [(4, .int 0), (0, .ref (A 7)), (1, .int 6), (2, .int 0), (3, .int 1)]) hx hb dX10_copyRow_1 hl (by decide) rfl (fun ls hl => ?_)
  have lp3_46 : ∀ (n3 : Nat) (ls : Array Slot) (y45d : Int32) (u46 : St) (H : Heap) (locs : List Loc), 0 ≤ y45d.toInt → y45d.toInt ≤ 6 → 6 - y45d.toInt < (n3 : Int) → Un [] [(7, 7)] [] u u46 → IM u46 → Hd D (mw C A) (va_A (mw C A u) s.heap.size) s.heap u46 H locs → lv_has ls 5 [(4, .int y45d), (0, .ref (A 7)), (1, .int 6), (2, .int 0), (3, .int 1)] → W p l e (rmL 1 0 0) s m ar below meth c H locs 0 0 Q (F0 m 3 ls []) := by
    intro n3
    induction n3 with
    | zero => intro ls y45d u46 H locs ly45d my45d hmun3 hUu46 hI hH hl; exfalso; omega
    | succ n3 ih3_46 =>
      intro ls y45d u46 H locs ly45d my45d hmun3 hUu46 hI hH hl
      refine lv_iload hx hb dX10_copyRow_3 (lv_at hl 0 rfl) ?_
      refine lv_iload_n hx hb dX10_copyRow_5 rfl (lv_at hl 2 rfl) ?_
      refine lv_icmp_ge (tgt := 31) hx hb dX10_copyRow_6 (by decide) (fun c48 => ?_) (fun c48 => ?_)
      · have c48 := cLE (x := 6) (y := y45d) (X := 6) (Y := y45d.toInt) (by decide) rfl c48
        exact hret _ _ _ _ _ dX10_copyRow_31 ⟨hI, (Un.tr Un.rf hUu46 rfl rfl rfl), trivial⟩ hH
      · have c48 := cNLE (x := 6) (y := y45d) (X := 6) (Y := y45d.toInt) (by decide) rfl c48
        refine lv_aload_n hx hb dX10_copyRow_9 rfl (lv_at hl 1 rfl) ?_
        refine lv_iload_n hx hb dX10_copyRow_10 rfl (lv_at hl 2 rfl) ?_
        refine lv_iload_n hx hb dX10_copyRow_11 rfl (lv_at hl 4 rfl) ?_
        refine lv_imul hx hb dX10_copyRow_12 ?_
        refine pv_i (v := 6) (by decide) ?_
        refine lv_iload hx hb dX10_copyRow_13 (lv_at hl 0 rfl) ?_
        refine lv_iadd hx hb dX10_copyRow_15 ?_
        refine p_nm (tt_add (X := 6) (Y := y45d.toInt) (by decide) rfl (by omega) (by omega)) (fun z49 hz49 => ?_)
        refine lv_aload_n hx hb dX10_copyRow_16 rfl (lv_at hl 1 rfl) ?_
        refine lv_iload_n hx hb dX10_copyRow_17 rfl (lv_at hl 2 rfl) ?_
        refine lv_iload_n hx hb dX10_copyRow_18 rfl (lv_at hl 3 rfl) ?_
        refine lv_imul hx hb dX10_copyRow_19 ?_
        refine pv_i (v := 0) (by decide) ?_
        refine lv_iload hx hb dX10_copyRow_20 (lv_at hl 0 rfl) ?_
        refine lv_iadd hx hb dX10_copyRow_22 ?_
        refine p_nm (tt_add (X := 0) (Y := y45d.toInt) (by decide) rfl (by omega) (by omega)) (fun z50 hz50 => ?_)
        refine va_iald hx hb hK hH.1 7 1 (mwc7 C A u46) rfl (i_ix hz50 (by omega) (by omega)) dX10_copyRow_23 ?_
        refine p_bd (P := fun q => 0 ≤ q ∧ q ≤ hB (Int32.toNatClampNeg z50 % 6)) (hI.has _) (fun z51 bz51 => ?_)
        have bz51 : 0 ≤ z51.toInt ∧ z51.toInt ≤ hB (Int32.toNatClampNeg z50 % 6) := bz51
        refine r_iast (j := 7) hx hb hK hH 7 1 (mwc7 C A u46) rfl (i_ix hz49 (by omega) (by omega)) (mwa7 C A u46) dX10_copyRow_24 (fun u52 eu52 H locs hH => ?_)
        have hI := hI.pah eu52 rfl (by omega) (by have q1 := i_cl (x := z49) (X := (6 + y45d.toInt)) hz49 (by omega); have q2 := i_cl (x := z50) (X := (0 + y45d.toInt)) hz50 (by omega); have q3 : Int32.toNatClampNeg z49 % 6 = Int32.toNatClampNeg z50 % 6 := (by omega); rw [q3]; exact bz51.2)
        obtain ⟨z53, ez53⟩ : ∃ z, z = y45d + Int32.ofInt 1 := ⟨_, rfl⟩
        have hz53 : z53.toInt = y45d.toInt + 1 := by rw [ez53]; exact tt_add rfl (by decide) (by omega) (by omega)
        refine lv_iinc (v := z53) (lv' := [(4, .int z53), (0, .ref (A 7)), (1, .int 6), (2, .int 0), (3, .int 1)]) hx hb dX10_copyRow_25 hl (k := 0) rfl ez53.symm (by decide) rfl (fun ls hl => ?_)
        refine lv_goto (tgt := 3) hx hb dX10_copyRow_28 (by decide) ?_
        exact ih3_46 ls z53 u52 _ _ (by have q9 := (show z53.toInt = (y45d.toInt + 1) from hz53); omega) (by have q9 := (show z53.toInt = (y45d.toInt + 1) from hz53); omega) (by have q9 := (show z53.toInt = (y45d.toInt + 1) from hz53); omega) (Un.sa hUu46 rfl eu52) hI hH hl
  exact lp3_46 7 ls 0 u _ _ (by decide) (by decide) (by have q9 : (0 : Int32).toInt = 0 := (by decide); omega) Un.rf hI hH hl
set_option maxHeartbeats 4000000 in
set_option maxRecDepth 100000 in
theorem kX10_copyRow_17 (l : Launch) (D : va_G) (C : Nat → ClassId) (A : Nat → Nat) (u : St) (hI : IM u) (sz : Nat) : MetV l yX10_copyRow cX10_copyRow 5 1 [.ref (A 8), .int 30, .int 0, .int 1] D (tyl C) (mw C A) X0 u sz (fun u' => IM u' ∧ Un [] [(8, 8)] [] u u' ∧ True) := by
  refine mV (by decide) (Nat.le_of_ble_eq_true rfl) ?_
  intro p e s m below meth c ls ar Q hx hb hml hown hts hK hH hX hl hret
  have hown : s.vm.findClass RX10 = some m.cls := hown
  have hl : lv_has ls 5 [(0, .ref (A 8)), (1, .int 30), (2, .int 0), (3, .int 1)] := hl
  refine lv_iconst (v := 0) hx hb dX10_copyRow_0 (by decide) ?_
  refine lv_istore (lv' := [(4, .int 0), (0, .ref (A 8)), (1, .int 30), (2, .int 0), (3, .int 1)]) hx hb dX10_copyRow_1 hl (by decide) rfl (fun ls hl => ?_)
  have lp3_64 : ∀ (n3 : Nat) (ls : Array Slot) (y63d : Int32) (u64 : St) (H : Heap) (locs : List Loc), 0 ≤ y63d.toInt → y63d.toInt ≤ 30 → 30 - y63d.toInt < (n3 : Int) → Un [] [(8, 8)] [] u u64 → IM u64 → Hd D (mw C A) (va_A (mw C A u) s.heap.size) s.heap u64 H locs → lv_has ls 5 [(4, .int y63d), (0, .ref (A 8)), (1, .int 30), (2, .int 0), (3, .int 1)] → W p l e (rmL 1 0 0) s m ar below meth c H locs 0 0 Q (F0 m 3 ls []) := by
    intro n3
    induction n3 with
    | zero => intro ls y63d u64 H locs ly63d my63d hmun3 hUu64 hI hH hl; exfalso; omega
    | succ n3 ih3_64 =>
      intro ls y63d u64 H locs ly63d my63d hmun3 hUu64 hI hH hl
      refine lv_iload hx hb dX10_copyRow_3 (lv_at hl 0 rfl) ?_
      refine lv_iload_n hx hb dX10_copyRow_5 rfl (lv_at hl 2 rfl) ?_
      refine lv_icmp_ge (tgt := 31) hx hb dX10_copyRow_6 (by decide) (fun c66 => ?_) (fun c66 => ?_)
      · have c66 := cLE (x := 30) (y := y63d) (X := 30) (Y := y63d.toInt) (by decide) rfl c66
        exact hret _ _ _ _ _ dX10_copyRow_31 ⟨hI, (Un.tr Un.rf hUu64 rfl rfl rfl), trivial⟩ hH
      · have c66 := cNLE (x := 30) (y := y63d) (X := 30) (Y := y63d.toInt) (by decide) rfl c66
        refine lv_aload_n hx hb dX10_copyRow_9 rfl (lv_at hl 1 rfl) ?_
        refine lv_iload_n hx hb dX10_copyRow_10 rfl (lv_at hl 2 rfl) ?_
        refine lv_iload_n hx hb dX10_copyRow_11 rfl (lv_at hl 4 rfl) ?_
        refine lv_imul hx hb dX10_copyRow_12 ?_
        refine pv_i (v := 30) (by decide) ?_
        refine lv_iload hx hb dX10_copyRow_13 (lv_at hl 0 rfl) ?_
        refine lv_iadd hx hb dX10_copyRow_15 ?_
        refine p_nm (tt_add (X := 30) (Y := y63d.toInt) (by decide) rfl (by omega) (by omega)) (fun z67 hz67 => ?_)
        refine lv_aload_n hx hb dX10_copyRow_16 rfl (lv_at hl 1 rfl) ?_
        refine lv_iload_n hx hb dX10_copyRow_17 rfl (lv_at hl 2 rfl) ?_
        refine lv_iload_n hx hb dX10_copyRow_18 rfl (lv_at hl 3 rfl) ?_
        refine lv_imul hx hb dX10_copyRow_19 ?_
        refine pv_i (v := 0) (by decide) ?_
        refine lv_iload hx hb dX10_copyRow_20 (lv_at hl 0 rfl) ?_
        refine lv_iadd hx hb dX10_copyRow_22 ?_
        refine p_nm (tt_add (X := 0) (Y := y63d.toInt) (by decide) rfl (by omega) (by omega)) (fun z68 hz68 => ?_)
        refine va_iald hx hb hK hH.1 8 1 (mwc8 C A u64) rfl (i_ix hz68 (by omega) (by omega)) dX10_copyRow_23 ?_
        refine p_any (fun z69 => ?_)
        refine r_iast (j := 8) hx hb hK hH 8 1 (mwc8 C A u64) rfl (i_ix hz67 (by omega) (by omega)) (mwa8 C A u64) dX10_copyRow_24 (fun u70 eu70 H locs hH => ?_)
        have hI := hI.pa0 eu70 (by decide) (by decide) (by decide)
        obtain ⟨z71, ez71⟩ : ∃ z, z = y63d + Int32.ofInt 1 := ⟨_, rfl⟩
        have hz71 : z71.toInt = y63d.toInt + 1 := by rw [ez71]; exact tt_add rfl (by decide) (by omega) (by omega)
        refine lv_iinc (v := z71) (lv' := [(4, .int z71), (0, .ref (A 8)), (1, .int 30), (2, .int 0), (3, .int 1)]) hx hb dX10_copyRow_25 hl (k := 0) rfl ez71.symm (by decide) rfl (fun ls hl => ?_)
        refine lv_goto (tgt := 3) hx hb dX10_copyRow_28 (by decide) ?_
        exact ih3_64 ls z71 u70 _ _ (by have q9 := (show z71.toInt = (y63d.toInt + 1) from hz71); omega) (by have q9 := (show z71.toInt = (y63d.toInt + 1) from hz71); omega) (by have q9 := (show z71.toInt = (y63d.toInt + 1) from hz71); omega) (Un.sa hUu64 rfl eu70) hI hH hl
  exact lp3_64 31 ls 0 u _ _ (by decide) (by decide) (by have q9 : (0 : Int32).toInt = 0 := (by decide); omega) Un.rf hI hH hl
set_option maxHeartbeats 4000000 in
set_option maxRecDepth 100000 in
theorem kX10_copyRow_18 (l : Launch) (D : va_G) (C : Nat → ClassId) (A : Nat → Nat) (u : St) (hI : IM u) (sz : Nat) : MetV l yX10_copyRow cX10_copyRow 5 1 [.ref (A 9), .int 5, .int 0, .int 1] D (tyl C) (mw C A) X0 u sz (fun u' => IM u' ∧ Un [] [(9, 9)] [] u u' ∧ True) := by
  refine mV (by decide) (Nat.le_of_ble_eq_true rfl) ?_
  intro p e s m below meth c ls ar Q hx hb hml hown hts hK hH hX hl hret
  have hown : s.vm.findClass RX10 = some m.cls := hown
  have hl : lv_has ls 5 [(0, .ref (A 9)), (1, .int 5), (2, .int 0), (3, .int 1)] := hl
  refine lv_iconst (v := 0) hx hb dX10_copyRow_0 (by decide) ?_
  refine lv_istore (lv' := [(4, .int 0), (0, .ref (A 9)), (1, .int 5), (2, .int 0), (3, .int 1)]) hx hb dX10_copyRow_1 hl (by decide) rfl (fun ls hl => ?_)
  have lp3_37 : ∀ (n3 : Nat) (ls : Array Slot) (y36d : Int32) (u37 : St) (H : Heap) (locs : List Loc), 0 ≤ y36d.toInt → y36d.toInt ≤ 5 → 5 - y36d.toInt < (n3 : Int) → Un [] [(9, 9)] [] u u37 → IM u37 → Hd D (mw C A) (va_A (mw C A u) s.heap.size) s.heap u37 H locs → lv_has ls 5 [(4, .int y36d), (0, .ref (A 9)), (1, .int 5), (2, .int 0), (3, .int 1)] → W p l e (rmL 1 0 0) s m ar below meth c H locs 0 0 Q (F0 m 3 ls []) := by
    intro n3
    induction n3 with
    | zero => intro ls y36d u37 H locs ly36d my36d hmun3 hUu37 hI hH hl; exfalso; omega
    | succ n3 ih3_37 =>
      intro ls y36d u37 H locs ly36d my36d hmun3 hUu37 hI hH hl
      refine lv_iload hx hb dX10_copyRow_3 (lv_at hl 0 rfl) ?_
      refine lv_iload_n hx hb dX10_copyRow_5 rfl (lv_at hl 2 rfl) ?_
      refine lv_icmp_ge (tgt := 31) hx hb dX10_copyRow_6 (by decide) (fun c39 => ?_) (fun c39 => ?_)
      · have c39 := cLE (x := 5) (y := y36d) (X := 5) (Y := y36d.toInt) (by decide) rfl c39
        exact hret _ _ _ _ _ dX10_copyRow_31 ⟨hI, (Un.tr Un.rf hUu37 rfl rfl rfl), trivial⟩ hH
      · have c39 := cNLE (x := 5) (y := y36d) (X := 5) (Y := y36d.toInt) (by decide) rfl c39
        refine lv_aload_n hx hb dX10_copyRow_9 rfl (lv_at hl 1 rfl) ?_
        refine lv_iload_n hx hb dX10_copyRow_10 rfl (lv_at hl 2 rfl) ?_
        refine lv_iload_n hx hb dX10_copyRow_11 rfl (lv_at hl 4 rfl) ?_
        refine lv_imul hx hb dX10_copyRow_12 ?_
        refine pv_i (v := 5) (by decide) ?_
        refine lv_iload hx hb dX10_copyRow_13 (lv_at hl 0 rfl) ?_
        refine lv_iadd hx hb dX10_copyRow_15 ?_
        refine p_nm (tt_add (X := 5) (Y := y36d.toInt) (by decide) rfl (by omega) (by omega)) (fun z40 hz40 => ?_)
        refine lv_aload_n hx hb dX10_copyRow_16 rfl (lv_at hl 1 rfl) ?_
        refine lv_iload_n hx hb dX10_copyRow_17 rfl (lv_at hl 2 rfl) ?_
        refine lv_iload_n hx hb dX10_copyRow_18 rfl (lv_at hl 3 rfl) ?_
        refine lv_imul hx hb dX10_copyRow_19 ?_
        refine pv_i (v := 0) (by decide) ?_
        refine lv_iload hx hb dX10_copyRow_20 (lv_at hl 0 rfl) ?_
        refine lv_iadd hx hb dX10_copyRow_22 ?_
        refine p_nm (tt_add (X := 0) (Y := y36d.toInt) (by decide) rfl (by omega) (by omega)) (fun z41 hz41 => ?_)
        refine va_iald hx hb hK hH.1 9 1 (mwc9 C A u37) rfl (i_ix hz41 (by omega) (by omega)) dX10_copyRow_23 ?_
        refine p_any (fun z42 => ?_)
        refine r_iast (j := 9) hx hb hK hH 9 1 (mwc9 C A u37) rfl (i_ix hz40 (by omega) (by omega)) (mwa9 C A u37) dX10_copyRow_24 (fun u43 eu43 H locs hH => ?_)
        have hI := hI.pa0 eu43 (by decide) (by decide) (by decide)
        obtain ⟨z44, ez44⟩ : ∃ z, z = y36d + Int32.ofInt 1 := ⟨_, rfl⟩
        have hz44 : z44.toInt = y36d.toInt + 1 := by rw [ez44]; exact tt_add rfl (by decide) (by omega) (by omega)
        refine lv_iinc (v := z44) (lv' := [(4, .int z44), (0, .ref (A 9)), (1, .int 5), (2, .int 0), (3, .int 1)]) hx hb dX10_copyRow_25 hl (k := 0) rfl ez44.symm (by decide) rfl (fun ls hl => ?_)
        refine lv_goto (tgt := 3) hx hb dX10_copyRow_28 (by decide) ?_
        exact ih3_37 ls z44 u43 _ _ (by have q9 := (show z44.toInt = (y36d.toInt + 1) from hz44); omega) (by have q9 := (show z44.toInt = (y36d.toInt + 1) from hz44); omega) (by have q9 := (show z44.toInt = (y36d.toInt + 1) from hz44); omega) (Un.sa hUu37 rfl eu43) hI hH hl
  exact lp3_37 6 ls 0 u _ _ (by decide) (by decide) (by have q9 : (0 : Int32).toInt = 0 := (by decide); omega) Un.rf hI hH hl
set_option maxHeartbeats 4000000 in
set_option maxRecDepth 100000 in
theorem kX10_copyRow_19 (l : Launch) (D : va_G) (C : Nat → ClassId) (A : Nat → Nat) (u : St) (hI : IM u) (sz : Nat) : MetV l yX10_copyRow cX10_copyRow 5 1 [.ref (A 10), .int 120, .int 0, .int 1] D (tyl C) (mw C A) X0 u sz (fun u' => IM u' ∧ Un [] [(10, 10)] [] u u' ∧ True) := by
  refine mV (by decide) (Nat.le_of_ble_eq_true rfl) ?_
  intro p e s m below meth c ls ar Q hx hb hml hown hts hK hH hX hl hret
  have hown : s.vm.findClass RX10 = some m.cls := hown
  have hl : lv_has ls 5 [(0, .ref (A 10)), (1, .int 120), (2, .int 0), (3, .int 1)] := hl
  refine lv_iconst (v := 0) hx hb dX10_copyRow_0 (by decide) ?_
  refine lv_istore (lv' := [(4, .int 0), (0, .ref (A 10)), (1, .int 120), (2, .int 0), (3, .int 1)]) hx hb dX10_copyRow_1 hl (by decide) rfl (fun ls hl => ?_)
  have lp3_109 : ∀ (n3 : Nat) (ls : Array Slot) (y108d : Int32) (u109 : St) (H : Heap) (locs : List Loc), 0 ≤ y108d.toInt → y108d.toInt ≤ 120 → 120 - y108d.toInt < (n3 : Int) → Un [] [(10, 10)] [] u u109 → IM u109 → Hd D (mw C A) (va_A (mw C A u) s.heap.size) s.heap u109 H locs → lv_has ls 5 [(4, .int y108d), (0, .ref (A 10)), (1, .int 120), (2, .int 0), (3, .int 1)] → W p l e (rmL 1 0 0) s m ar below meth c H locs 0 0 Q (F0 m 3 ls []) := by
    intro n3
    induction n3 with
    | zero => intro ls y108d u109 H locs ly108d my108d hmun3 hUu109 hI hH hl; exfalso; omega
    | succ n3 ih3_109 =>
      intro ls y108d u109 H locs ly108d my108d hmun3 hUu109 hI hH hl
      refine lv_iload hx hb dX10_copyRow_3 (lv_at hl 0 rfl) ?_
      refine lv_iload_n hx hb dX10_copyRow_5 rfl (lv_at hl 2 rfl) ?_
      refine lv_icmp_ge (tgt := 31) hx hb dX10_copyRow_6 (by decide) (fun c111 => ?_) (fun c111 => ?_)
      · have c111 := cLE (x := 120) (y := y108d) (X := 120) (Y := y108d.toInt) (by decide) rfl c111
        exact hret _ _ _ _ _ dX10_copyRow_31 ⟨hI, (Un.tr Un.rf hUu109 rfl rfl rfl), trivial⟩ hH
      · have c111 := cNLE (x := 120) (y := y108d) (X := 120) (Y := y108d.toInt) (by decide) rfl c111
        refine lv_aload_n hx hb dX10_copyRow_9 rfl (lv_at hl 1 rfl) ?_
        refine lv_iload_n hx hb dX10_copyRow_10 rfl (lv_at hl 2 rfl) ?_
        refine lv_iload_n hx hb dX10_copyRow_11 rfl (lv_at hl 4 rfl) ?_
        refine lv_imul hx hb dX10_copyRow_12 ?_
        refine pv_i (v := 120) (by decide) ?_
        refine lv_iload hx hb dX10_copyRow_13 (lv_at hl 0 rfl) ?_
        refine lv_iadd hx hb dX10_copyRow_15 ?_
        refine p_nm (tt_add (X := 120) (Y := y108d.toInt) (by decide) rfl (by omega) (by omega)) (fun z112 hz112 => ?_)
        refine lv_aload_n hx hb dX10_copyRow_16 rfl (lv_at hl 1 rfl) ?_
        refine lv_iload_n hx hb dX10_copyRow_17 rfl (lv_at hl 2 rfl) ?_
        refine lv_iload_n hx hb dX10_copyRow_18 rfl (lv_at hl 3 rfl) ?_
        refine lv_imul hx hb dX10_copyRow_19 ?_
        refine pv_i (v := 0) (by decide) ?_
        refine lv_iload hx hb dX10_copyRow_20 (lv_at hl 0 rfl) ?_
        refine lv_iadd hx hb dX10_copyRow_22 ?_
        refine p_nm (tt_add (X := 0) (Y := y108d.toInt) (by decide) rfl (by omega) (by omega)) (fun z113 hz113 => ?_)
        refine va_iald hx hb hK hH.1 10 1 (mwc10 C A u109) rfl (i_ix hz113 (by omega) (by omega)) dX10_copyRow_23 ?_
        refine p_any (fun z114 => ?_)
        refine r_iast (j := 10) hx hb hK hH 10 1 (mwc10 C A u109) rfl (i_ix hz112 (by omega) (by omega)) (mwa10 C A u109) dX10_copyRow_24 (fun u115 eu115 H locs hH => ?_)
        have hI := hI.pa0 eu115 (by decide) (by decide) (by decide)
        obtain ⟨z116, ez116⟩ : ∃ z, z = y108d + Int32.ofInt 1 := ⟨_, rfl⟩
        have hz116 : z116.toInt = y108d.toInt + 1 := by rw [ez116]; exact tt_add rfl (by decide) (by omega) (by omega)
        refine lv_iinc (v := z116) (lv' := [(4, .int z116), (0, .ref (A 10)), (1, .int 120), (2, .int 0), (3, .int 1)]) hx hb dX10_copyRow_25 hl (k := 0) rfl ez116.symm (by decide) rfl (fun ls hl => ?_)
        refine lv_goto (tgt := 3) hx hb dX10_copyRow_28 (by decide) ?_
        exact ih3_109 ls z116 u115 _ _ (by have q9 := (show z116.toInt = (y108d.toInt + 1) from hz116); omega) (by have q9 := (show z116.toInt = (y108d.toInt + 1) from hz116); omega) (by have q9 := (show z116.toInt = (y108d.toInt + 1) from hz116); omega) (Un.sa hUu109 rfl eu115) hI hH hl
  exact lp3_109 121 ls 0 u _ _ (by decide) (by decide) (by have q9 : (0 : Int32).toInt = 0 := (by decide); omega) Un.rf hI hH hl
set_option maxHeartbeats 4000000 in
set_option maxRecDepth 100000 in
theorem kX10_copyTown_3 (l : Launch) (D : va_G) (C : Nat → ClassId) (A : Nat → Nat) (u : St) (hI : IM u) (sz : Nat) : MetV l yX10_copyTown cX10_copyTown 3 2 [.ref (A 0), .int 0, .int 1] D (tyl C) (mw C A) X0 u sz (fun u' => IM u' ∧ Un [] [(6, 6), (7, 7), (8, 8), (9, 9), (10, 10)] [] u u' ∧ True) := by
  refine mV (by decide) (Nat.le_of_ble_eq_true rfl) ?_
  intro p e s m below meth c ls ar Q hx hb hml hown hts hK hH hX hl hret
  have hown : s.vm.findClass RX10 = some m.cls := hown
  have hl : lv_has ls 3 [(0, .ref (A 0)), (1, .int 0), (2, .int 1)] := hl
  refine lv_aload_n hx hb dX10_copyTown_0 rfl (lv_at hl 0 rfl) ?_
  refine va_get (ci := 10) (v := .ref (A 6)) (C := RX10) (T := TX10) (N := 42) hx hb hts (fun w h => uc_in w (inX10 w h)) hown hK hH.1 0 (mwc0 C A u) rfl 16 (by decide) (hts _ (uc_in _ q_f1204)) (fun _ h9 => h9) rfl dX10_copyTown_1 ?_
  refine lv_iconst (v := 1) hx hb dX10_copyTown_4 (by decide) ?_
  refine lv_iload_n hx hb dX10_copyTown_5 rfl (lv_at hl 1 rfl) ?_
  refine lv_iload_n hx hb dX10_copyTown_6 rfl (lv_at hl 2 rfl) ?_
  refine csU (n := 4) (As := [.ref (A 6), .int 1, .int 0, .int 1]) (rest := []) ⟨hx, hb, hml, hown, hts⟩ uc_in (kX10_copyRow_15 l D C A u hI  _) q_m1453 q_s1454 q_i11 q_c1455 hvX10_copyRow ⟨(Nat.le_of_ble_eq_true rfl), (Nat.le_of_ble_eq_true rfl)⟩ ⟨(Nat.le_of_ble_eq_true rfl), (Nat.le_of_ble_eq_true rfl)⟩ hK hH (fun q h => Or.inr h) Bl0 (fun _ _ _ => trivial) rfl hl.1 rfl (Nat.le_of_ble_eq_true rfl) dX10_copyTown_7 (fun u1 H locs p3 hH => ?_)
  obtain ⟨hI, hUu1, p3⟩ := p3
  refine lv_aload_n hx hb dX10_copyTown_10 rfl (lv_at hl 0 rfl) ?_
  refine va_get (ci := 10) (v := .ref (A 7)) (C := RX10) (T := TX10) (N := 42) hx hb hts (fun w h => uc_in w (inX10 w h)) hown hK hH.1 0 (mwc0 C A u1) rfl 17 (by decide) (hts _ (uc_in _ q_f1205)) (fun _ h9 => h9) rfl dX10_copyTown_11 ?_
  refine lv_bipush (v := 6) hx hb dX10_copyTown_14 (by decide) ?_
  refine lv_iload_n hx hb dX10_copyTown_16 rfl (lv_at hl 1 rfl) ?_
  refine lv_iload_n hx hb dX10_copyTown_17 rfl (lv_at hl 2 rfl) ?_
  refine csU (n := 4) (As := [.ref (A 7), .int 6, .int 0, .int 1]) (rest := []) ⟨hx, hb, hml, hown, hts⟩ uc_in (kX10_copyRow_16 l D C A u1 hI  _) q_m1453 q_s1454 q_i11 q_c1455 hvX10_copyRow ⟨(Nat.le_of_ble_eq_true rfl), (Nat.le_of_ble_eq_true rfl)⟩ ⟨(Nat.le_of_ble_eq_true rfl), (Nat.le_of_ble_eq_true rfl)⟩ hK hH (fun q h => Or.inr h) Bl0 (fun _ _ _ => trivial) rfl hl.1 rfl (Nat.le_of_ble_eq_true rfl) dX10_copyTown_18 (fun u4 H locs p6 hH => ?_)
  obtain ⟨hI, hUu4, p6⟩ := p6
  refine lv_aload_n hx hb dX10_copyTown_21 rfl (lv_at hl 0 rfl) ?_
  refine va_get (ci := 10) (v := .ref (A 8)) (C := RX10) (T := TX10) (N := 42) hx hb hts (fun w h => uc_in w (inX10 w h)) hown hK hH.1 0 (mwc0 C A u4) rfl 18 (by decide) (hts _ (uc_in _ q_f1206)) (fun _ h9 => h9) rfl dX10_copyTown_22 ?_
  refine lv_bipush (v := 30) hx hb dX10_copyTown_25 (by decide) ?_
  refine lv_iload_n hx hb dX10_copyTown_27 rfl (lv_at hl 1 rfl) ?_
  refine lv_iload_n hx hb dX10_copyTown_28 rfl (lv_at hl 2 rfl) ?_
  refine csU (n := 4) (As := [.ref (A 8), .int 30, .int 0, .int 1]) (rest := []) ⟨hx, hb, hml, hown, hts⟩ uc_in (kX10_copyRow_17 l D C A u4 hI  _) q_m1453 q_s1454 q_i11 q_c1455 hvX10_copyRow ⟨(Nat.le_of_ble_eq_true rfl), (Nat.le_of_ble_eq_true rfl)⟩ ⟨(Nat.le_of_ble_eq_true rfl), (Nat.le_of_ble_eq_true rfl)⟩ hK hH (fun q h => Or.inr h) Bl0 (fun _ _ _ => trivial) rfl hl.1 rfl (Nat.le_of_ble_eq_true rfl) dX10_copyTown_29 (fun u7 H locs p9 hH => ?_)
  obtain ⟨hI, hUu7, p9⟩ := p9
  refine lv_aload_n hx hb dX10_copyTown_32 rfl (lv_at hl 0 rfl) ?_
  refine va_get (ci := 10) (v := .ref (A 9)) (C := RX10) (T := TX10) (N := 42) hx hb hts (fun w h => uc_in w (inX10 w h)) hown hK hH.1 0 (mwc0 C A u7) rfl 19 (by decide) (hts _ (uc_in _ q_f1207)) (fun _ h9 => h9) rfl dX10_copyTown_33 ?_
  refine lv_iconst (v := 5) hx hb dX10_copyTown_36 (by decide) ?_
  refine lv_iload_n hx hb dX10_copyTown_37 rfl (lv_at hl 1 rfl) ?_
  refine lv_iload_n hx hb dX10_copyTown_38 rfl (lv_at hl 2 rfl) ?_
  refine csU (n := 4) (As := [.ref (A 9), .int 5, .int 0, .int 1]) (rest := []) ⟨hx, hb, hml, hown, hts⟩ uc_in (kX10_copyRow_18 l D C A u7 hI  _) q_m1453 q_s1454 q_i11 q_c1455 hvX10_copyRow ⟨(Nat.le_of_ble_eq_true rfl), (Nat.le_of_ble_eq_true rfl)⟩ ⟨(Nat.le_of_ble_eq_true rfl), (Nat.le_of_ble_eq_true rfl)⟩ hK hH (fun q h => Or.inr h) Bl0 (fun _ _ _ => trivial) rfl hl.1 rfl (Nat.le_of_ble_eq_true rfl) dX10_copyTown_39 (fun u10 H locs p12 hH => ?_)
  obtain ⟨hI, hUu10, p12⟩ := p12
  refine lv_aload_n hx hb dX10_copyTown_42 rfl (lv_at hl 0 rfl) ?_
  refine va_get (ci := 10) (v := .ref (A 10)) (C := RX10) (T := TX10) (N := 42) hx hb hts (fun w h => uc_in w (inX10 w h)) hown hK hH.1 0 (mwc0 C A u10) rfl 20 (by decide) (hts _ (uc_in _ q_f1208)) (fun _ h9 => h9) rfl dX10_copyTown_43 ?_
  refine lv_bipush (v := 120) hx hb dX10_copyTown_46 (by decide) ?_
  refine lv_iload_n hx hb dX10_copyTown_48 rfl (lv_at hl 1 rfl) ?_
  refine lv_iload_n hx hb dX10_copyTown_49 rfl (lv_at hl 2 rfl) ?_
  refine csU (n := 4) (As := [.ref (A 10), .int 120, .int 0, .int 1]) (rest := []) ⟨hx, hb, hml, hown, hts⟩ uc_in (kX10_copyRow_19 l D C A u10 hI  _) q_m1453 q_s1454 q_i11 q_c1455 hvX10_copyRow ⟨(Nat.le_of_ble_eq_true rfl), (Nat.le_of_ble_eq_true rfl)⟩ ⟨(Nat.le_of_ble_eq_true rfl), (Nat.le_of_ble_eq_true rfl)⟩ hK hH (fun q h => Or.inr h) Bl0 (fun _ _ _ => trivial) rfl hl.1 rfl (Nat.le_of_ble_eq_true rfl) dX10_copyTown_50 (fun u13 H locs p15 hH => ?_)
  obtain ⟨hI, hUu13, p15⟩ := p15
  exact hret _ _ _ _ _ dX10_copyTown_53 ⟨hI, (Un.tr (Un.tr (Un.tr (Un.tr (Un.tr Un.rf hUu1 rfl rfl rfl) hUu4 rfl rfl rfl) hUu7 rfl rfl rfl) hUu10 rfl rfl rfl) hUu13 rfl rfl rfl), trivial⟩ hH
set_option maxHeartbeats 4000000 in
set_option maxRecDepth 100000 in
theorem kX10_copyRow_20 (l : Launch) (D : va_G) (C : Nat → ClassId) (A : Nat → Nat) (u : St) (hI : IM u) (sz : Nat) : MetV l yX10_copyRow cX10_copyRow 5 1 [.ref (A 6), .int 1, .int 0, .int 2] D (tyl C) (mw C A) X0 u sz (fun u' => IM u' ∧ Un [] [(6, 6)] [] u u' ∧ True) := by
  refine mV (by decide) (Nat.le_of_ble_eq_true rfl) ?_
  intro p e s m below meth c ls ar Q hx hb hml hown hts hK hH hX hl hret
  have hown : s.vm.findClass RX10 = some m.cls := hown
  have hl : lv_has ls 5 [(0, .ref (A 6)), (1, .int 1), (2, .int 0), (3, .int 2)] := hl
  refine lv_iconst (v := 0) hx hb dX10_copyRow_0 (by decide) ?_
  refine lv_istore (lv' := [(4, .int 0), (0, .ref (A 6)), (1, .int 1), (2, .int 0), (3, .int 2)]) hx hb dX10_copyRow_1 hl (by decide) rfl (fun ls hl => ?_)
  have lp3_19 : ∀ (n3 : Nat) (ls : Array Slot) (y18d : Int32) (u19 : St) (H : Heap) (locs : List Loc), 0 ≤ y18d.toInt → y18d.toInt ≤ 1 → 1 - y18d.toInt < (n3 : Int) → Un [] [(6, 6)] [] u u19 → IM u19 → Hd D (mw C A) (va_A (mw C A u) s.heap.size) s.heap u19 H locs → lv_has ls 5 [(4, .int y18d), (0, .ref (A 6)), (1, .int 1), (2, .int 0), (3, .int 2)] → W p l e (rmL 1 0 0) s m ar below meth c H locs 0 0 Q (F0 m 3 ls []) := by
    intro n3
    induction n3 with
    | zero => intro ls y18d u19 H locs ly18d my18d hmun3 hUu19 hI hH hl; exfalso; omega
    | succ n3 ih3_19 =>
      intro ls y18d u19 H locs ly18d my18d hmun3 hUu19 hI hH hl
      refine lv_iload hx hb dX10_copyRow_3 (lv_at hl 0 rfl) ?_
      refine lv_iload_n hx hb dX10_copyRow_5 rfl (lv_at hl 2 rfl) ?_
      refine lv_icmp_ge (tgt := 31) hx hb dX10_copyRow_6 (by decide) (fun c21 => ?_) (fun c21 => ?_)
      · have c21 := cLE (x := 1) (y := y18d) (X := 1) (Y := y18d.toInt) (by decide) rfl c21
        exact hret _ _ _ _ _ dX10_copyRow_31 ⟨hI, (Un.tr Un.rf hUu19 rfl rfl rfl), trivial⟩ hH
      · have c21 := cNLE (x := 1) (y := y18d) (X := 1) (Y := y18d.toInt) (by decide) rfl c21
        refine lv_aload_n hx hb dX10_copyRow_9 rfl (lv_at hl 1 rfl) ?_
        refine lv_iload_n hx hb dX10_copyRow_10 rfl (lv_at hl 2 rfl) ?_
        refine lv_iload_n hx hb dX10_copyRow_11 rfl (lv_at hl 4 rfl) ?_
        refine lv_imul hx hb dX10_copyRow_12 ?_
        refine pv_i (v := 2) (by decide) ?_
        refine lv_iload hx hb dX10_copyRow_13 (lv_at hl 0 rfl) ?_
        refine lv_iadd hx hb dX10_copyRow_15 ?_
        refine p_nm (tt_add (X := 2) (Y := y18d.toInt) (by decide) rfl (by omega) (by omega)) (fun z22 hz22 => ?_)
        refine lv_aload_n hx hb dX10_copyRow_16 rfl (lv_at hl 1 rfl) ?_
        refine lv_iload_n hx hb dX10_copyRow_17 rfl (lv_at hl 2 rfl) ?_
        refine lv_iload_n hx hb dX10_copyRow_18 rfl (lv_at hl 3 rfl) ?_
        refine lv_imul hx hb dX10_copyRow_19 ?_
        refine pv_i (v := 0) (by decide) ?_
        refine lv_iload hx hb dX10_copyRow_20 (lv_at hl 0 rfl) ?_
        refine lv_iadd hx hb dX10_copyRow_22 ?_
        refine p_nm (tt_add (X := 0) (Y := y18d.toInt) (by decide) rfl (by omega) (by omega)) (fun z23 hz23 => ?_)
        refine va_iald hx hb hK hH.1 6 1 (mwc6 C A u19) rfl (i_ix hz23 (by omega) (by omega)) dX10_copyRow_23 ?_
        refine p_any (fun z24 => ?_)
        refine r_iast (j := 6) hx hb hK hH 6 1 (mwc6 C A u19) rfl (i_ix hz22 (by omega) (by omega)) (mwa6 C A u19) dX10_copyRow_24 (fun u25 eu25 H locs hH => ?_)
        have hI := hI.pa0 eu25 (by decide) (by decide) (by decide)
        obtain ⟨z26, ez26⟩ : ∃ z, z = y18d + Int32.ofInt 1 := ⟨_, rfl⟩
        have hz26 : z26.toInt = y18d.toInt + 1 := by rw [ez26]; exact tt_add rfl (by decide) (by omega) (by omega)
        refine lv_iinc (v := z26) (lv' := [(4, .int z26), (0, .ref (A 6)), (1, .int 1), (2, .int 0), (3, .int 2)]) hx hb dX10_copyRow_25 hl (k := 0) rfl ez26.symm (by decide) rfl (fun ls hl => ?_)
        refine lv_goto (tgt := 3) hx hb dX10_copyRow_28 (by decide) ?_
        exact ih3_19 ls z26 u25 _ _ (by have q9 := (show z26.toInt = (y18d.toInt + 1) from hz26); omega) (by have q9 := (show z26.toInt = (y18d.toInt + 1) from hz26); omega) (by have q9 := (show z26.toInt = (y18d.toInt + 1) from hz26); omega) (Un.sa hUu19 rfl eu25) hI hH hl
  exact lp3_19 2 ls 0 u _ _ (by decide) (by decide) (by have q9 : (0 : Int32).toInt = 0 := (by decide); omega) Un.rf hI hH hl
set_option maxHeartbeats 4000000 in
set_option maxRecDepth 100000 in
theorem kX10_copyRow_21 (l : Launch) (D : va_G) (C : Nat → ClassId) (A : Nat → Nat) (u : St) (hI : IM u) (sz : Nat) : MetV l yX10_copyRow cX10_copyRow 5 1 [.ref (A 7), .int 6, .int 0, .int 2] D (tyl C) (mw C A) X0 u sz (fun u' => IM u' ∧ Un [] [(7, 7)] [] u u' ∧ True) := by
  refine mV (by decide) (Nat.le_of_ble_eq_true rfl) ?_
  intro p e s m below meth c ls ar Q hx hb hml hown hts hK hH hX hl hret
  have hown : s.vm.findClass RX10 = some m.cls := hown
  have hl : lv_has ls 5 [(0, .ref (A 7)), (1, .int 6), (2, .int 0), (3, .int 2)] := hl
  refine lv_iconst (v := 0) hx hb dX10_copyRow_0 (by decide) ?_
  refine lv_istore (lv' := [(4, .int 0), (0, .ref (A 7)), (1, .int 6), (2, .int 0), (3, .int 2)]) hx hb dX10_copyRow_1 hl (by decide) rfl (fun ls hl => ?_)
  have lp3_46 : ∀ (n3 : Nat) (ls : Array Slot) (y45d : Int32) (u46 : St) (H : Heap) (locs : List Loc), 0 ≤ y45d.toInt → y45d.toInt ≤ 6 → 6 - y45d.toInt < (n3 : Int) → Un [] [(7, 7)] [] u u46 → IM u46 → Hd D (mw C A) (va_A (mw C A u) s.heap.size) s.heap u46 H locs → lv_has ls 5 [(4, .int y45d), (0, .ref (A 7)), (1, .int 6), (2, .int 0), (3, .int 2)] → W p l e (rmL 1 0 0) s m ar below meth c H locs 0 0 Q (F0 m 3 ls []) := by
    intro n3
    induction n3 with
    | zero => intro ls y45d u46 H locs ly45d my45d hmun3 hUu46 hI hH hl; exfalso; omega
    | succ n3 ih3_46 =>
      intro ls y45d u46 H locs ly45d my45d hmun3 hUu46 hI hH hl
      refine lv_iload hx hb dX10_copyRow_3 (lv_at hl 0 rfl) ?_
      refine lv_iload_n hx hb dX10_copyRow_5 rfl (lv_at hl 2 rfl) ?_
      refine lv_icmp_ge (tgt := 31) hx hb dX10_copyRow_6 (by decide) (fun c48 => ?_) (fun c48 => ?_)
      · have c48 := cLE (x := 6) (y := y45d) (X := 6) (Y := y45d.toInt) (by decide) rfl c48
        exact hret _ _ _ _ _ dX10_copyRow_31 ⟨hI, (Un.tr Un.rf hUu46 rfl rfl rfl), trivial⟩ hH
      · have c48 := cNLE (x := 6) (y := y45d) (X := 6) (Y := y45d.toInt) (by decide) rfl c48
        refine lv_aload_n hx hb dX10_copyRow_9 rfl (lv_at hl 1 rfl) ?_
        refine lv_iload_n hx hb dX10_copyRow_10 rfl (lv_at hl 2 rfl) ?_
        refine lv_iload_n hx hb dX10_copyRow_11 rfl (lv_at hl 4 rfl) ?_
        refine lv_imul hx hb dX10_copyRow_12 ?_
        refine pv_i (v := 12) (by decide) ?_
        refine lv_iload hx hb dX10_copyRow_13 (lv_at hl 0 rfl) ?_
        refine lv_iadd hx hb dX10_copyRow_15 ?_
        refine p_nm (tt_add (X := 12) (Y := y45d.toInt) (by decide) rfl (by omega) (by omega)) (fun z49 hz49 => ?_)
        refine lv_aload_n hx hb dX10_copyRow_16 rfl (lv_at hl 1 rfl) ?_
        refine lv_iload_n hx hb dX10_copyRow_17 rfl (lv_at hl 2 rfl) ?_
        refine lv_iload_n hx hb dX10_copyRow_18 rfl (lv_at hl 3 rfl) ?_
        refine lv_imul hx hb dX10_copyRow_19 ?_
        refine pv_i (v := 0) (by decide) ?_
        refine lv_iload hx hb dX10_copyRow_20 (lv_at hl 0 rfl) ?_
        refine lv_iadd hx hb dX10_copyRow_22 ?_
        refine p_nm (tt_add (X := 0) (Y := y45d.toInt) (by decide) rfl (by omega) (by omega)) (fun z50 hz50 => ?_)
        refine va_iald hx hb hK hH.1 7 1 (mwc7 C A u46) rfl (i_ix hz50 (by omega) (by omega)) dX10_copyRow_23 ?_
        refine p_bd (P := fun q => 0 ≤ q ∧ q ≤ hB (Int32.toNatClampNeg z50 % 6)) (hI.has _) (fun z51 bz51 => ?_)
        have bz51 : 0 ≤ z51.toInt ∧ z51.toInt ≤ hB (Int32.toNatClampNeg z50 % 6) := bz51
        refine r_iast (j := 7) hx hb hK hH 7 1 (mwc7 C A u46) rfl (i_ix hz49 (by omega) (by omega)) (mwa7 C A u46) dX10_copyRow_24 (fun u52 eu52 H locs hH => ?_)
        have hI := hI.pah eu52 rfl (by omega) (by have q1 := i_cl (x := z49) (X := (12 + y45d.toInt)) hz49 (by omega); have q2 := i_cl (x := z50) (X := (0 + y45d.toInt)) hz50 (by omega); have q3 : Int32.toNatClampNeg z49 % 6 = Int32.toNatClampNeg z50 % 6 := (by omega); rw [q3]; exact bz51.2)
        obtain ⟨z53, ez53⟩ : ∃ z, z = y45d + Int32.ofInt 1 := ⟨_, rfl⟩
        have hz53 : z53.toInt = y45d.toInt + 1 := by rw [ez53]; exact tt_add rfl (by decide) (by omega) (by omega)
        refine lv_iinc (v := z53) (lv' := [(4, .int z53), (0, .ref (A 7)), (1, .int 6), (2, .int 0), (3, .int 2)]) hx hb dX10_copyRow_25 hl (k := 0) rfl ez53.symm (by decide) rfl (fun ls hl => ?_)
        refine lv_goto (tgt := 3) hx hb dX10_copyRow_28 (by decide) ?_
        exact ih3_46 ls z53 u52 _ _ (by have q9 := (show z53.toInt = (y45d.toInt + 1) from hz53); omega) (by have q9 := (show z53.toInt = (y45d.toInt + 1) from hz53); omega) (by have q9 := (show z53.toInt = (y45d.toInt + 1) from hz53); omega) (Un.sa hUu46 rfl eu52) hI hH hl
  exact lp3_46 7 ls 0 u _ _ (by decide) (by decide) (by have q9 : (0 : Int32).toInt = 0 := (by decide); omega) Un.rf hI hH hl
set_option maxHeartbeats 4000000 in
set_option maxRecDepth 100000 in
theorem kX10_copyRow_22 (l : Launch) (D : va_G) (C : Nat → ClassId) (A : Nat → Nat) (u : St) (hI : IM u) (sz : Nat) : MetV l yX10_copyRow cX10_copyRow 5 1 [.ref (A 8), .int 30, .int 0, .int 2] D (tyl C) (mw C A) X0 u sz (fun u' => IM u' ∧ Un [] [(8, 8)] [] u u' ∧ True) := by
  refine mV (by decide) (Nat.le_of_ble_eq_true rfl) ?_
  intro p e s m below meth c ls ar Q hx hb hml hown hts hK hH hX hl hret
  have hown : s.vm.findClass RX10 = some m.cls := hown
  have hl : lv_has ls 5 [(0, .ref (A 8)), (1, .int 30), (2, .int 0), (3, .int 2)] := hl
  refine lv_iconst (v := 0) hx hb dX10_copyRow_0 (by decide) ?_
  refine lv_istore (lv' := [(4, .int 0), (0, .ref (A 8)), (1, .int 30), (2, .int 0), (3, .int 2)]) hx hb dX10_copyRow_1 hl (by decide) rfl (fun ls hl => ?_)
  have lp3_64 : ∀ (n3 : Nat) (ls : Array Slot) (y63d : Int32) (u64 : St) (H : Heap) (locs : List Loc), 0 ≤ y63d.toInt → y63d.toInt ≤ 30 → 30 - y63d.toInt < (n3 : Int) → Un [] [(8, 8)] [] u u64 → IM u64 → Hd D (mw C A) (va_A (mw C A u) s.heap.size) s.heap u64 H locs → lv_has ls 5 [(4, .int y63d), (0, .ref (A 8)), (1, .int 30), (2, .int 0), (3, .int 2)] → W p l e (rmL 1 0 0) s m ar below meth c H locs 0 0 Q (F0 m 3 ls []) := by
    intro n3
    induction n3 with
    | zero => intro ls y63d u64 H locs ly63d my63d hmun3 hUu64 hI hH hl; exfalso; omega
    | succ n3 ih3_64 =>
      intro ls y63d u64 H locs ly63d my63d hmun3 hUu64 hI hH hl
      refine lv_iload hx hb dX10_copyRow_3 (lv_at hl 0 rfl) ?_
      refine lv_iload_n hx hb dX10_copyRow_5 rfl (lv_at hl 2 rfl) ?_
      refine lv_icmp_ge (tgt := 31) hx hb dX10_copyRow_6 (by decide) (fun c66 => ?_) (fun c66 => ?_)
      · have c66 := cLE (x := 30) (y := y63d) (X := 30) (Y := y63d.toInt) (by decide) rfl c66
        exact hret _ _ _ _ _ dX10_copyRow_31 ⟨hI, (Un.tr Un.rf hUu64 rfl rfl rfl), trivial⟩ hH
      · have c66 := cNLE (x := 30) (y := y63d) (X := 30) (Y := y63d.toInt) (by decide) rfl c66
        refine lv_aload_n hx hb dX10_copyRow_9 rfl (lv_at hl 1 rfl) ?_
        refine lv_iload_n hx hb dX10_copyRow_10 rfl (lv_at hl 2 rfl) ?_
        refine lv_iload_n hx hb dX10_copyRow_11 rfl (lv_at hl 4 rfl) ?_
        refine lv_imul hx hb dX10_copyRow_12 ?_
        refine pv_i (v := 60) (by decide) ?_
        refine lv_iload hx hb dX10_copyRow_13 (lv_at hl 0 rfl) ?_
        refine lv_iadd hx hb dX10_copyRow_15 ?_
        refine p_nm (tt_add (X := 60) (Y := y63d.toInt) (by decide) rfl (by omega) (by omega)) (fun z67 hz67 => ?_)
        refine lv_aload_n hx hb dX10_copyRow_16 rfl (lv_at hl 1 rfl) ?_
        refine lv_iload_n hx hb dX10_copyRow_17 rfl (lv_at hl 2 rfl) ?_
        refine lv_iload_n hx hb dX10_copyRow_18 rfl (lv_at hl 3 rfl) ?_
        refine lv_imul hx hb dX10_copyRow_19 ?_
        refine pv_i (v := 0) (by decide) ?_
        refine lv_iload hx hb dX10_copyRow_20 (lv_at hl 0 rfl) ?_
        refine lv_iadd hx hb dX10_copyRow_22 ?_
        refine p_nm (tt_add (X := 0) (Y := y63d.toInt) (by decide) rfl (by omega) (by omega)) (fun z68 hz68 => ?_)
        refine va_iald hx hb hK hH.1 8 1 (mwc8 C A u64) rfl (i_ix hz68 (by omega) (by omega)) dX10_copyRow_23 ?_
        refine p_any (fun z69 => ?_)
        refine r_iast (j := 8) hx hb hK hH 8 1 (mwc8 C A u64) rfl (i_ix hz67 (by omega) (by omega)) (mwa8 C A u64) dX10_copyRow_24 (fun u70 eu70 H locs hH => ?_)
        have hI := hI.pa0 eu70 (by decide) (by decide) (by decide)
        obtain ⟨z71, ez71⟩ : ∃ z, z = y63d + Int32.ofInt 1 := ⟨_, rfl⟩
        have hz71 : z71.toInt = y63d.toInt + 1 := by rw [ez71]; exact tt_add rfl (by decide) (by omega) (by omega)
        refine lv_iinc (v := z71) (lv' := [(4, .int z71), (0, .ref (A 8)), (1, .int 30), (2, .int 0), (3, .int 2)]) hx hb dX10_copyRow_25 hl (k := 0) rfl ez71.symm (by decide) rfl (fun ls hl => ?_)
        refine lv_goto (tgt := 3) hx hb dX10_copyRow_28 (by decide) ?_
        exact ih3_64 ls z71 u70 _ _ (by have q9 := (show z71.toInt = (y63d.toInt + 1) from hz71); omega) (by have q9 := (show z71.toInt = (y63d.toInt + 1) from hz71); omega) (by have q9 := (show z71.toInt = (y63d.toInt + 1) from hz71); omega) (Un.sa hUu64 rfl eu70) hI hH hl
  exact lp3_64 31 ls 0 u _ _ (by decide) (by decide) (by have q9 : (0 : Int32).toInt = 0 := (by decide); omega) Un.rf hI hH hl
set_option maxHeartbeats 4000000 in
set_option maxRecDepth 100000 in
theorem kX10_copyRow_23 (l : Launch) (D : va_G) (C : Nat → ClassId) (A : Nat → Nat) (u : St) (hI : IM u) (sz : Nat) : MetV l yX10_copyRow cX10_copyRow 5 1 [.ref (A 9), .int 5, .int 0, .int 2] D (tyl C) (mw C A) X0 u sz (fun u' => IM u' ∧ Un [] [(9, 9)] [] u u' ∧ True) := by
  refine mV (by decide) (Nat.le_of_ble_eq_true rfl) ?_
  intro p e s m below meth c ls ar Q hx hb hml hown hts hK hH hX hl hret
  have hown : s.vm.findClass RX10 = some m.cls := hown
  have hl : lv_has ls 5 [(0, .ref (A 9)), (1, .int 5), (2, .int 0), (3, .int 2)] := hl
  refine lv_iconst (v := 0) hx hb dX10_copyRow_0 (by decide) ?_
  refine lv_istore (lv' := [(4, .int 0), (0, .ref (A 9)), (1, .int 5), (2, .int 0), (3, .int 2)]) hx hb dX10_copyRow_1 hl (by decide) rfl (fun ls hl => ?_)
  have lp3_37 : ∀ (n3 : Nat) (ls : Array Slot) (y36d : Int32) (u37 : St) (H : Heap) (locs : List Loc), 0 ≤ y36d.toInt → y36d.toInt ≤ 5 → 5 - y36d.toInt < (n3 : Int) → Un [] [(9, 9)] [] u u37 → IM u37 → Hd D (mw C A) (va_A (mw C A u) s.heap.size) s.heap u37 H locs → lv_has ls 5 [(4, .int y36d), (0, .ref (A 9)), (1, .int 5), (2, .int 0), (3, .int 2)] → W p l e (rmL 1 0 0) s m ar below meth c H locs 0 0 Q (F0 m 3 ls []) := by
    intro n3
    induction n3 with
    | zero => intro ls y36d u37 H locs ly36d my36d hmun3 hUu37 hI hH hl; exfalso; omega
    | succ n3 ih3_37 =>
      intro ls y36d u37 H locs ly36d my36d hmun3 hUu37 hI hH hl
      refine lv_iload hx hb dX10_copyRow_3 (lv_at hl 0 rfl) ?_
      refine lv_iload_n hx hb dX10_copyRow_5 rfl (lv_at hl 2 rfl) ?_
      refine lv_icmp_ge (tgt := 31) hx hb dX10_copyRow_6 (by decide) (fun c39 => ?_) (fun c39 => ?_)
      · have c39 := cLE (x := 5) (y := y36d) (X := 5) (Y := y36d.toInt) (by decide) rfl c39
        exact hret _ _ _ _ _ dX10_copyRow_31 ⟨hI, (Un.tr Un.rf hUu37 rfl rfl rfl), trivial⟩ hH
      · have c39 := cNLE (x := 5) (y := y36d) (X := 5) (Y := y36d.toInt) (by decide) rfl c39
        refine lv_aload_n hx hb dX10_copyRow_9 rfl (lv_at hl 1 rfl) ?_
        refine lv_iload_n hx hb dX10_copyRow_10 rfl (lv_at hl 2 rfl) ?_
        refine lv_iload_n hx hb dX10_copyRow_11 rfl (lv_at hl 4 rfl) ?_
        refine lv_imul hx hb dX10_copyRow_12 ?_
        refine pv_i (v := 10) (by decide) ?_
        refine lv_iload hx hb dX10_copyRow_13 (lv_at hl 0 rfl) ?_
        refine lv_iadd hx hb dX10_copyRow_15 ?_
        refine p_nm (tt_add (X := 10) (Y := y36d.toInt) (by decide) rfl (by omega) (by omega)) (fun z40 hz40 => ?_)
        refine lv_aload_n hx hb dX10_copyRow_16 rfl (lv_at hl 1 rfl) ?_
        refine lv_iload_n hx hb dX10_copyRow_17 rfl (lv_at hl 2 rfl) ?_
        refine lv_iload_n hx hb dX10_copyRow_18 rfl (lv_at hl 3 rfl) ?_
        refine lv_imul hx hb dX10_copyRow_19 ?_
        refine pv_i (v := 0) (by decide) ?_
        refine lv_iload hx hb dX10_copyRow_20 (lv_at hl 0 rfl) ?_
        refine lv_iadd hx hb dX10_copyRow_22 ?_
        refine p_nm (tt_add (X := 0) (Y := y36d.toInt) (by decide) rfl (by omega) (by omega)) (fun z41 hz41 => ?_)
        refine va_iald hx hb hK hH.1 9 1 (mwc9 C A u37) rfl (i_ix hz41 (by omega) (by omega)) dX10_copyRow_23 ?_
        refine p_any (fun z42 => ?_)
        refine r_iast (j := 9) hx hb hK hH 9 1 (mwc9 C A u37) rfl (i_ix hz40 (by omega) (by omega)) (mwa9 C A u37) dX10_copyRow_24 (fun u43 eu43 H locs hH => ?_)
        have hI := hI.pa0 eu43 (by decide) (by decide) (by decide)
        obtain ⟨z44, ez44⟩ : ∃ z, z = y36d + Int32.ofInt 1 := ⟨_, rfl⟩
        have hz44 : z44.toInt = y36d.toInt + 1 := by rw [ez44]; exact tt_add rfl (by decide) (by omega) (by omega)
        refine lv_iinc (v := z44) (lv' := [(4, .int z44), (0, .ref (A 9)), (1, .int 5), (2, .int 0), (3, .int 2)]) hx hb dX10_copyRow_25 hl (k := 0) rfl ez44.symm (by decide) rfl (fun ls hl => ?_)
        refine lv_goto (tgt := 3) hx hb dX10_copyRow_28 (by decide) ?_
        exact ih3_37 ls z44 u43 _ _ (by have q9 := (show z44.toInt = (y36d.toInt + 1) from hz44); omega) (by have q9 := (show z44.toInt = (y36d.toInt + 1) from hz44); omega) (by have q9 := (show z44.toInt = (y36d.toInt + 1) from hz44); omega) (Un.sa hUu37 rfl eu43) hI hH hl
  exact lp3_37 6 ls 0 u _ _ (by decide) (by decide) (by have q9 : (0 : Int32).toInt = 0 := (by decide); omega) Un.rf hI hH hl
set_option maxHeartbeats 4000000 in
set_option maxRecDepth 100000 in
theorem kX10_copyRow_24 (l : Launch) (D : va_G) (C : Nat → ClassId) (A : Nat → Nat) (u : St) (hI : IM u) (sz : Nat) : MetV l yX10_copyRow cX10_copyRow 5 1 [.ref (A 10), .int 120, .int 0, .int 2] D (tyl C) (mw C A) X0 u sz (fun u' => IM u' ∧ Un [] [(10, 10)] [] u u' ∧ True) := by
  refine mV (by decide) (Nat.le_of_ble_eq_true rfl) ?_
  intro p e s m below meth c ls ar Q hx hb hml hown hts hK hH hX hl hret
  have hown : s.vm.findClass RX10 = some m.cls := hown
  have hl : lv_has ls 5 [(0, .ref (A 10)), (1, .int 120), (2, .int 0), (3, .int 2)] := hl
  refine lv_iconst (v := 0) hx hb dX10_copyRow_0 (by decide) ?_
  refine lv_istore (lv' := [(4, .int 0), (0, .ref (A 10)), (1, .int 120), (2, .int 0), (3, .int 2)]) hx hb dX10_copyRow_1 hl (by decide) rfl (fun ls hl => ?_)
  have lp3_109 : ∀ (n3 : Nat) (ls : Array Slot) (y108d : Int32) (u109 : St) (H : Heap) (locs : List Loc), 0 ≤ y108d.toInt → y108d.toInt ≤ 120 → 120 - y108d.toInt < (n3 : Int) → Un [] [(10, 10)] [] u u109 → IM u109 → Hd D (mw C A) (va_A (mw C A u) s.heap.size) s.heap u109 H locs → lv_has ls 5 [(4, .int y108d), (0, .ref (A 10)), (1, .int 120), (2, .int 0), (3, .int 2)] → W p l e (rmL 1 0 0) s m ar below meth c H locs 0 0 Q (F0 m 3 ls []) := by
    intro n3
    induction n3 with
    | zero => intro ls y108d u109 H locs ly108d my108d hmun3 hUu109 hI hH hl; exfalso; omega
    | succ n3 ih3_109 =>
      intro ls y108d u109 H locs ly108d my108d hmun3 hUu109 hI hH hl
      refine lv_iload hx hb dX10_copyRow_3 (lv_at hl 0 rfl) ?_
      refine lv_iload_n hx hb dX10_copyRow_5 rfl (lv_at hl 2 rfl) ?_
      refine lv_icmp_ge (tgt := 31) hx hb dX10_copyRow_6 (by decide) (fun c111 => ?_) (fun c111 => ?_)
      · have c111 := cLE (x := 120) (y := y108d) (X := 120) (Y := y108d.toInt) (by decide) rfl c111
        exact hret _ _ _ _ _ dX10_copyRow_31 ⟨hI, (Un.tr Un.rf hUu109 rfl rfl rfl), trivial⟩ hH
      · have c111 := cNLE (x := 120) (y := y108d) (X := 120) (Y := y108d.toInt) (by decide) rfl c111
        refine lv_aload_n hx hb dX10_copyRow_9 rfl (lv_at hl 1 rfl) ?_
        refine lv_iload_n hx hb dX10_copyRow_10 rfl (lv_at hl 2 rfl) ?_
        refine lv_iload_n hx hb dX10_copyRow_11 rfl (lv_at hl 4 rfl) ?_
        refine lv_imul hx hb dX10_copyRow_12 ?_
        refine pv_i (v := 240) (by decide) ?_
        refine lv_iload hx hb dX10_copyRow_13 (lv_at hl 0 rfl) ?_
        refine lv_iadd hx hb dX10_copyRow_15 ?_
        refine p_nm (tt_add (X := 240) (Y := y108d.toInt) (by decide) rfl (by omega) (by omega)) (fun z112 hz112 => ?_)
        refine lv_aload_n hx hb dX10_copyRow_16 rfl (lv_at hl 1 rfl) ?_
        refine lv_iload_n hx hb dX10_copyRow_17 rfl (lv_at hl 2 rfl) ?_
        refine lv_iload_n hx hb dX10_copyRow_18 rfl (lv_at hl 3 rfl) ?_
        refine lv_imul hx hb dX10_copyRow_19 ?_
        refine pv_i (v := 0) (by decide) ?_
        refine lv_iload hx hb dX10_copyRow_20 (lv_at hl 0 rfl) ?_
        refine lv_iadd hx hb dX10_copyRow_22 ?_
        refine p_nm (tt_add (X := 0) (Y := y108d.toInt) (by decide) rfl (by omega) (by omega)) (fun z113 hz113 => ?_)
        refine va_iald hx hb hK hH.1 10 1 (mwc10 C A u109) rfl (i_ix hz113 (by omega) (by omega)) dX10_copyRow_23 ?_
        refine p_any (fun z114 => ?_)
        refine r_iast (j := 10) hx hb hK hH 10 1 (mwc10 C A u109) rfl (i_ix hz112 (by omega) (by omega)) (mwa10 C A u109) dX10_copyRow_24 (fun u115 eu115 H locs hH => ?_)
        have hI := hI.pa0 eu115 (by decide) (by decide) (by decide)
        obtain ⟨z116, ez116⟩ : ∃ z, z = y108d + Int32.ofInt 1 := ⟨_, rfl⟩
        have hz116 : z116.toInt = y108d.toInt + 1 := by rw [ez116]; exact tt_add rfl (by decide) (by omega) (by omega)
        refine lv_iinc (v := z116) (lv' := [(4, .int z116), (0, .ref (A 10)), (1, .int 120), (2, .int 0), (3, .int 2)]) hx hb dX10_copyRow_25 hl (k := 0) rfl ez116.symm (by decide) rfl (fun ls hl => ?_)
        refine lv_goto (tgt := 3) hx hb dX10_copyRow_28 (by decide) ?_
        exact ih3_109 ls z116 u115 _ _ (by have q9 := (show z116.toInt = (y108d.toInt + 1) from hz116); omega) (by have q9 := (show z116.toInt = (y108d.toInt + 1) from hz116); omega) (by have q9 := (show z116.toInt = (y108d.toInt + 1) from hz116); omega) (Un.sa hUu109 rfl eu115) hI hH hl
  exact lp3_109 121 ls 0 u _ _ (by decide) (by decide) (by have q9 : (0 : Int32).toInt = 0 := (by decide); omega) Un.rf hI hH hl
set_option maxHeartbeats 4000000 in
set_option maxRecDepth 100000 in
theorem kX10_copyTown_4 (l : Launch) (D : va_G) (C : Nat → ClassId) (A : Nat → Nat) (u : St) (hI : IM u) (sz : Nat) : MetV l yX10_copyTown cX10_copyTown 3 2 [.ref (A 0), .int 0, .int 2] D (tyl C) (mw C A) X0 u sz (fun u' => IM u' ∧ Un [] [(6, 6), (7, 7), (8, 8), (9, 9), (10, 10)] [] u u' ∧ True) := by
  refine mV (by decide) (Nat.le_of_ble_eq_true rfl) ?_
  intro p e s m below meth c ls ar Q hx hb hml hown hts hK hH hX hl hret
  have hown : s.vm.findClass RX10 = some m.cls := hown
  have hl : lv_has ls 3 [(0, .ref (A 0)), (1, .int 0), (2, .int 2)] := hl
  refine lv_aload_n hx hb dX10_copyTown_0 rfl (lv_at hl 0 rfl) ?_
  refine va_get (ci := 10) (v := .ref (A 6)) (C := RX10) (T := TX10) (N := 42) hx hb hts (fun w h => uc_in w (inX10 w h)) hown hK hH.1 0 (mwc0 C A u) rfl 16 (by decide) (hts _ (uc_in _ q_f1204)) (fun _ h9 => h9) rfl dX10_copyTown_1 ?_
  refine lv_iconst (v := 1) hx hb dX10_copyTown_4 (by decide) ?_
  refine lv_iload_n hx hb dX10_copyTown_5 rfl (lv_at hl 1 rfl) ?_
  refine lv_iload_n hx hb dX10_copyTown_6 rfl (lv_at hl 2 rfl) ?_
  refine csU (n := 4) (As := [.ref (A 6), .int 1, .int 0, .int 2]) (rest := []) ⟨hx, hb, hml, hown, hts⟩ uc_in (kX10_copyRow_20 l D C A u hI  _) q_m1453 q_s1454 q_i11 q_c1455 hvX10_copyRow ⟨(Nat.le_of_ble_eq_true rfl), (Nat.le_of_ble_eq_true rfl)⟩ ⟨(Nat.le_of_ble_eq_true rfl), (Nat.le_of_ble_eq_true rfl)⟩ hK hH (fun q h => Or.inr h) Bl0 (fun _ _ _ => trivial) rfl hl.1 rfl (Nat.le_of_ble_eq_true rfl) dX10_copyTown_7 (fun u1 H locs p3 hH => ?_)
  obtain ⟨hI, hUu1, p3⟩ := p3
  refine lv_aload_n hx hb dX10_copyTown_10 rfl (lv_at hl 0 rfl) ?_
  refine va_get (ci := 10) (v := .ref (A 7)) (C := RX10) (T := TX10) (N := 42) hx hb hts (fun w h => uc_in w (inX10 w h)) hown hK hH.1 0 (mwc0 C A u1) rfl 17 (by decide) (hts _ (uc_in _ q_f1205)) (fun _ h9 => h9) rfl dX10_copyTown_11 ?_
  refine lv_bipush (v := 6) hx hb dX10_copyTown_14 (by decide) ?_
  refine lv_iload_n hx hb dX10_copyTown_16 rfl (lv_at hl 1 rfl) ?_
  refine lv_iload_n hx hb dX10_copyTown_17 rfl (lv_at hl 2 rfl) ?_
  refine csU (n := 4) (As := [.ref (A 7), .int 6, .int 0, .int 2]) (rest := []) ⟨hx, hb, hml, hown, hts⟩ uc_in (kX10_copyRow_21 l D C A u1 hI  _) q_m1453 q_s1454 q_i11 q_c1455 hvX10_copyRow ⟨(Nat.le_of_ble_eq_true rfl), (Nat.le_of_ble_eq_true rfl)⟩ ⟨(Nat.le_of_ble_eq_true rfl), (Nat.le_of_ble_eq_true rfl)⟩ hK hH (fun q h => Or.inr h) Bl0 (fun _ _ _ => trivial) rfl hl.1 rfl (Nat.le_of_ble_eq_true rfl) dX10_copyTown_18 (fun u4 H locs p6 hH => ?_)
  obtain ⟨hI, hUu4, p6⟩ := p6
  refine lv_aload_n hx hb dX10_copyTown_21 rfl (lv_at hl 0 rfl) ?_
  refine va_get (ci := 10) (v := .ref (A 8)) (C := RX10) (T := TX10) (N := 42) hx hb hts (fun w h => uc_in w (inX10 w h)) hown hK hH.1 0 (mwc0 C A u4) rfl 18 (by decide) (hts _ (uc_in _ q_f1206)) (fun _ h9 => h9) rfl dX10_copyTown_22 ?_
  refine lv_bipush (v := 30) hx hb dX10_copyTown_25 (by decide) ?_
  refine lv_iload_n hx hb dX10_copyTown_27 rfl (lv_at hl 1 rfl) ?_
  refine lv_iload_n hx hb dX10_copyTown_28 rfl (lv_at hl 2 rfl) ?_
  refine csU (n := 4) (As := [.ref (A 8), .int 30, .int 0, .int 2]) (rest := []) ⟨hx, hb, hml, hown, hts⟩ uc_in (kX10_copyRow_22 l D C A u4 hI  _) q_m1453 q_s1454 q_i11 q_c1455 hvX10_copyRow ⟨(Nat.le_of_ble_eq_true rfl), (Nat.le_of_ble_eq_true rfl)⟩ ⟨(Nat.le_of_ble_eq_true rfl), (Nat.le_of_ble_eq_true rfl)⟩ hK hH (fun q h => Or.inr h) Bl0 (fun _ _ _ => trivial) rfl hl.1 rfl (Nat.le_of_ble_eq_true rfl) dX10_copyTown_29 (fun u7 H locs p9 hH => ?_)
  obtain ⟨hI, hUu7, p9⟩ := p9
  refine lv_aload_n hx hb dX10_copyTown_32 rfl (lv_at hl 0 rfl) ?_
  refine va_get (ci := 10) (v := .ref (A 9)) (C := RX10) (T := TX10) (N := 42) hx hb hts (fun w h => uc_in w (inX10 w h)) hown hK hH.1 0 (mwc0 C A u7) rfl 19 (by decide) (hts _ (uc_in _ q_f1207)) (fun _ h9 => h9) rfl dX10_copyTown_33 ?_
  refine lv_iconst (v := 5) hx hb dX10_copyTown_36 (by decide) ?_
  refine lv_iload_n hx hb dX10_copyTown_37 rfl (lv_at hl 1 rfl) ?_
  refine lv_iload_n hx hb dX10_copyTown_38 rfl (lv_at hl 2 rfl) ?_
  refine csU (n := 4) (As := [.ref (A 9), .int 5, .int 0, .int 2]) (rest := []) ⟨hx, hb, hml, hown, hts⟩ uc_in (kX10_copyRow_23 l D C A u7 hI  _) q_m1453 q_s1454 q_i11 q_c1455 hvX10_copyRow ⟨(Nat.le_of_ble_eq_true rfl), (Nat.le_of_ble_eq_true rfl)⟩ ⟨(Nat.le_of_ble_eq_true rfl), (Nat.le_of_ble_eq_true rfl)⟩ hK hH (fun q h => Or.inr h) Bl0 (fun _ _ _ => trivial) rfl hl.1 rfl (Nat.le_of_ble_eq_true rfl) dX10_copyTown_39 (fun u10 H locs p12 hH => ?_)
  obtain ⟨hI, hUu10, p12⟩ := p12
  refine lv_aload_n hx hb dX10_copyTown_42 rfl (lv_at hl 0 rfl) ?_
  refine va_get (ci := 10) (v := .ref (A 10)) (C := RX10) (T := TX10) (N := 42) hx hb hts (fun w h => uc_in w (inX10 w h)) hown hK hH.1 0 (mwc0 C A u10) rfl 20 (by decide) (hts _ (uc_in _ q_f1208)) (fun _ h9 => h9) rfl dX10_copyTown_43 ?_
  refine lv_bipush (v := 120) hx hb dX10_copyTown_46 (by decide) ?_
  refine lv_iload_n hx hb dX10_copyTown_48 rfl (lv_at hl 1 rfl) ?_
  refine lv_iload_n hx hb dX10_copyTown_49 rfl (lv_at hl 2 rfl) ?_
  refine csU (n := 4) (As := [.ref (A 10), .int 120, .int 0, .int 2]) (rest := []) ⟨hx, hb, hml, hown, hts⟩ uc_in (kX10_copyRow_24 l D C A u10 hI  _) q_m1453 q_s1454 q_i11 q_c1455 hvX10_copyRow ⟨(Nat.le_of_ble_eq_true rfl), (Nat.le_of_ble_eq_true rfl)⟩ ⟨(Nat.le_of_ble_eq_true rfl), (Nat.le_of_ble_eq_true rfl)⟩ hK hH (fun q h => Or.inr h) Bl0 (fun _ _ _ => trivial) rfl hl.1 rfl (Nat.le_of_ble_eq_true rfl) dX10_copyTown_50 (fun u13 H locs p15 hH => ?_)
  obtain ⟨hI, hUu13, p15⟩ := p15
  exact hret _ _ _ _ _ dX10_copyTown_53 ⟨hI, (Un.tr (Un.tr (Un.tr (Un.tr (Un.tr Un.rf hUu1 rfl rfl rfl) hUu4 rfl rfl rfl) hUu7 rfl rfl rfl) hUu10 rfl rfl rfl) hUu13 rfl rfl rfl), trivial⟩ hH
set_option maxHeartbeats 4000000 in
set_option maxRecDepth 100000 in
theorem kX10_copyRow_25 (l : Launch) (D : va_G) (C : Nat → ClassId) (A : Nat → Nat) (u : St) (hI : IM u) (sz : Nat) : MetV l yX10_copyRow cX10_copyRow 5 1 [.ref (A 6), .int 1, .int 0, .int 3] D (tyl C) (mw C A) X0 u sz (fun u' => IM u' ∧ Un [] [(6, 6)] [] u u' ∧ True) := by
  refine mV (by decide) (Nat.le_of_ble_eq_true rfl) ?_
  intro p e s m below meth c ls ar Q hx hb hml hown hts hK hH hX hl hret
  have hown : s.vm.findClass RX10 = some m.cls := hown
  have hl : lv_has ls 5 [(0, .ref (A 6)), (1, .int 1), (2, .int 0), (3, .int 3)] := hl
  refine lv_iconst (v := 0) hx hb dX10_copyRow_0 (by decide) ?_
  refine lv_istore (lv' := [(4, .int 0), (0, .ref (A 6)), (1, .int 1), (2, .int 0), (3, .int 3)]) hx hb dX10_copyRow_1 hl (by decide) rfl (fun ls hl => ?_)
  have lp3_19 : ∀ (n3 : Nat) (ls : Array Slot) (y18d : Int32) (u19 : St) (H : Heap) (locs : List Loc), 0 ≤ y18d.toInt → y18d.toInt ≤ 1 → 1 - y18d.toInt < (n3 : Int) → Un [] [(6, 6)] [] u u19 → IM u19 → Hd D (mw C A) (va_A (mw C A u) s.heap.size) s.heap u19 H locs → lv_has ls 5 [(4, .int y18d), (0, .ref (A 6)), (1, .int 1), (2, .int 0), (3, .int 3)] → W p l e (rmL 1 0 0) s m ar below meth c H locs 0 0 Q (F0 m 3 ls []) := by
    intro n3
    induction n3 with
    | zero => intro ls y18d u19 H locs ly18d my18d hmun3 hUu19 hI hH hl; exfalso; omega
    | succ n3 ih3_19 =>
      intro ls y18d u19 H locs ly18d my18d hmun3 hUu19 hI hH hl
      refine lv_iload hx hb dX10_copyRow_3 (lv_at hl 0 rfl) ?_
      refine lv_iload_n hx hb dX10_copyRow_5 rfl (lv_at hl 2 rfl) ?_
      refine lv_icmp_ge (tgt := 31) hx hb dX10_copyRow_6 (by decide) (fun c21 => ?_) (fun c21 => ?_)
      · have c21 := cLE (x := 1) (y := y18d) (X := 1) (Y := y18d.toInt) (by decide) rfl c21
        exact hret _ _ _ _ _ dX10_copyRow_31 ⟨hI, (Un.tr Un.rf hUu19 rfl rfl rfl), trivial⟩ hH
      · have c21 := cNLE (x := 1) (y := y18d) (X := 1) (Y := y18d.toInt) (by decide) rfl c21
        refine lv_aload_n hx hb dX10_copyRow_9 rfl (lv_at hl 1 rfl) ?_
        refine lv_iload_n hx hb dX10_copyRow_10 rfl (lv_at hl 2 rfl) ?_
        refine lv_iload_n hx hb dX10_copyRow_11 rfl (lv_at hl 4 rfl) ?_
        refine lv_imul hx hb dX10_copyRow_12 ?_
        refine pv_i (v := 3) (by decide) ?_
        refine lv_iload hx hb dX10_copyRow_13 (lv_at hl 0 rfl) ?_
        refine lv_iadd hx hb dX10_copyRow_15 ?_
        refine p_nm (tt_add (X := 3) (Y := y18d.toInt) (by decide) rfl (by omega) (by omega)) (fun z22 hz22 => ?_)
        refine lv_aload_n hx hb dX10_copyRow_16 rfl (lv_at hl 1 rfl) ?_
        refine lv_iload_n hx hb dX10_copyRow_17 rfl (lv_at hl 2 rfl) ?_
        refine lv_iload_n hx hb dX10_copyRow_18 rfl (lv_at hl 3 rfl) ?_
        refine lv_imul hx hb dX10_copyRow_19 ?_
        refine pv_i (v := 0) (by decide) ?_
        refine lv_iload hx hb dX10_copyRow_20 (lv_at hl 0 rfl) ?_
        refine lv_iadd hx hb dX10_copyRow_22 ?_
        refine p_nm (tt_add (X := 0) (Y := y18d.toInt) (by decide) rfl (by omega) (by omega)) (fun z23 hz23 => ?_)
        refine va_iald hx hb hK hH.1 6 1 (mwc6 C A u19) rfl (i_ix hz23 (by omega) (by omega)) dX10_copyRow_23 ?_
        refine p_any (fun z24 => ?_)
        refine r_iast (j := 6) hx hb hK hH 6 1 (mwc6 C A u19) rfl (i_ix hz22 (by omega) (by omega)) (mwa6 C A u19) dX10_copyRow_24 (fun u25 eu25 H locs hH => ?_)
        have hI := hI.pa0 eu25 (by decide) (by decide) (by decide)
        obtain ⟨z26, ez26⟩ : ∃ z, z = y18d + Int32.ofInt 1 := ⟨_, rfl⟩
        have hz26 : z26.toInt = y18d.toInt + 1 := by rw [ez26]; exact tt_add rfl (by decide) (by omega) (by omega)
        refine lv_iinc (v := z26) (lv' := [(4, .int z26), (0, .ref (A 6)), (1, .int 1), (2, .int 0), (3, .int 3)]) hx hb dX10_copyRow_25 hl (k := 0) rfl ez26.symm (by decide) rfl (fun ls hl => ?_)
        refine lv_goto (tgt := 3) hx hb dX10_copyRow_28 (by decide) ?_
        exact ih3_19 ls z26 u25 _ _ (by have q9 := (show z26.toInt = (y18d.toInt + 1) from hz26); omega) (by have q9 := (show z26.toInt = (y18d.toInt + 1) from hz26); omega) (by have q9 := (show z26.toInt = (y18d.toInt + 1) from hz26); omega) (Un.sa hUu19 rfl eu25) hI hH hl
  exact lp3_19 2 ls 0 u _ _ (by decide) (by decide) (by have q9 : (0 : Int32).toInt = 0 := (by decide); omega) Un.rf hI hH hl
set_option maxHeartbeats 4000000 in
set_option maxRecDepth 100000 in
theorem kX10_copyRow_26 (l : Launch) (D : va_G) (C : Nat → ClassId) (A : Nat → Nat) (u : St) (hI : IM u) (sz : Nat) : MetV l yX10_copyRow cX10_copyRow 5 1 [.ref (A 7), .int 6, .int 0, .int 3] D (tyl C) (mw C A) X0 u sz (fun u' => IM u' ∧ Un [] [(7, 7)] [] u u' ∧ True) := by
  refine mV (by decide) (Nat.le_of_ble_eq_true rfl) ?_
  intro p e s m below meth c ls ar Q hx hb hml hown hts hK hH hX hl hret
  have hown : s.vm.findClass RX10 = some m.cls := hown
  have hl : lv_has ls 5 [(0, .ref (A 7)), (1, .int 6), (2, .int 0), (3, .int 3)] := hl
  refine lv_iconst (v := 0) hx hb dX10_copyRow_0 (by decide) ?_
  refine lv_istore (lv' := [(4, .int 0), (0, .ref (A 7)), (1, .int 6), (2, .int 0), (3, .int 3)]) hx hb dX10_copyRow_1 hl (by decide) rfl (fun ls hl => ?_)
  have lp3_46 : ∀ (n3 : Nat) (ls : Array Slot) (y45d : Int32) (u46 : St) (H : Heap) (locs : List Loc), 0 ≤ y45d.toInt → y45d.toInt ≤ 6 → 6 - y45d.toInt < (n3 : Int) → Un [] [(7, 7)] [] u u46 → IM u46 → Hd D (mw C A) (va_A (mw C A u) s.heap.size) s.heap u46 H locs → lv_has ls 5 [(4, .int y45d), (0, .ref (A 7)), (1, .int 6), (2, .int 0), (3, .int 3)] → W p l e (rmL 1 0 0) s m ar below meth c H locs 0 0 Q (F0 m 3 ls []) := by
    intro n3
    induction n3 with
    | zero => intro ls y45d u46 H locs ly45d my45d hmun3 hUu46 hI hH hl; exfalso; omega
    | succ n3 ih3_46 =>
      intro ls y45d u46 H locs ly45d my45d hmun3 hUu46 hI hH hl
      refine lv_iload hx hb dX10_copyRow_3 (lv_at hl 0 rfl) ?_
      refine lv_iload_n hx hb dX10_copyRow_5 rfl (lv_at hl 2 rfl) ?_
      refine lv_icmp_ge (tgt := 31) hx hb dX10_copyRow_6 (by decide) (fun c48 => ?_) (fun c48 => ?_)
      · have c48 := cLE (x := 6) (y := y45d) (X := 6) (Y := y45d.toInt) (by decide) rfl c48
        exact hret _ _ _ _ _ dX10_copyRow_31 ⟨hI, (Un.tr Un.rf hUu46 rfl rfl rfl), trivial⟩ hH
      · have c48 := cNLE (x := 6) (y := y45d) (X := 6) (Y := y45d.toInt) (by decide) rfl c48
        refine lv_aload_n hx hb dX10_copyRow_9 rfl (lv_at hl 1 rfl) ?_
        refine lv_iload_n hx hb dX10_copyRow_10 rfl (lv_at hl 2 rfl) ?_
        refine lv_iload_n hx hb dX10_copyRow_11 rfl (lv_at hl 4 rfl) ?_
        refine lv_imul hx hb dX10_copyRow_12 ?_
        refine pv_i (v := 18) (by decide) ?_
        refine lv_iload hx hb dX10_copyRow_13 (lv_at hl 0 rfl) ?_
        refine lv_iadd hx hb dX10_copyRow_15 ?_
        refine p_nm (tt_add (X := 18) (Y := y45d.toInt) (by decide) rfl (by omega) (by omega)) (fun z49 hz49 => ?_)
        refine lv_aload_n hx hb dX10_copyRow_16 rfl (lv_at hl 1 rfl) ?_
        refine lv_iload_n hx hb dX10_copyRow_17 rfl (lv_at hl 2 rfl) ?_
        refine lv_iload_n hx hb dX10_copyRow_18 rfl (lv_at hl 3 rfl) ?_
        refine lv_imul hx hb dX10_copyRow_19 ?_
        refine pv_i (v := 0) (by decide) ?_
        refine lv_iload hx hb dX10_copyRow_20 (lv_at hl 0 rfl) ?_
        refine lv_iadd hx hb dX10_copyRow_22 ?_
        refine p_nm (tt_add (X := 0) (Y := y45d.toInt) (by decide) rfl (by omega) (by omega)) (fun z50 hz50 => ?_)
        refine va_iald hx hb hK hH.1 7 1 (mwc7 C A u46) rfl (i_ix hz50 (by omega) (by omega)) dX10_copyRow_23 ?_
        refine p_bd (P := fun q => 0 ≤ q ∧ q ≤ hB (Int32.toNatClampNeg z50 % 6)) (hI.has _) (fun z51 bz51 => ?_)
        have bz51 : 0 ≤ z51.toInt ∧ z51.toInt ≤ hB (Int32.toNatClampNeg z50 % 6) := bz51
        refine r_iast (j := 7) hx hb hK hH 7 1 (mwc7 C A u46) rfl (i_ix hz49 (by omega) (by omega)) (mwa7 C A u46) dX10_copyRow_24 (fun u52 eu52 H locs hH => ?_)
        have hI := hI.pah eu52 rfl (by omega) (by have q1 := i_cl (x := z49) (X := (18 + y45d.toInt)) hz49 (by omega); have q2 := i_cl (x := z50) (X := (0 + y45d.toInt)) hz50 (by omega); have q3 : Int32.toNatClampNeg z49 % 6 = Int32.toNatClampNeg z50 % 6 := (by omega); rw [q3]; exact bz51.2)
        obtain ⟨z53, ez53⟩ : ∃ z, z = y45d + Int32.ofInt 1 := ⟨_, rfl⟩
        have hz53 : z53.toInt = y45d.toInt + 1 := by rw [ez53]; exact tt_add rfl (by decide) (by omega) (by omega)
        refine lv_iinc (v := z53) (lv' := [(4, .int z53), (0, .ref (A 7)), (1, .int 6), (2, .int 0), (3, .int 3)]) hx hb dX10_copyRow_25 hl (k := 0) rfl ez53.symm (by decide) rfl (fun ls hl => ?_)
        refine lv_goto (tgt := 3) hx hb dX10_copyRow_28 (by decide) ?_
        exact ih3_46 ls z53 u52 _ _ (by have q9 := (show z53.toInt = (y45d.toInt + 1) from hz53); omega) (by have q9 := (show z53.toInt = (y45d.toInt + 1) from hz53); omega) (by have q9 := (show z53.toInt = (y45d.toInt + 1) from hz53); omega) (Un.sa hUu46 rfl eu52) hI hH hl
  exact lp3_46 7 ls 0 u _ _ (by decide) (by decide) (by have q9 : (0 : Int32).toInt = 0 := (by decide); omega) Un.rf hI hH hl
set_option maxHeartbeats 4000000 in
set_option maxRecDepth 100000 in
theorem kX10_copyRow_27 (l : Launch) (D : va_G) (C : Nat → ClassId) (A : Nat → Nat) (u : St) (hI : IM u) (sz : Nat) : MetV l yX10_copyRow cX10_copyRow 5 1 [.ref (A 8), .int 30, .int 0, .int 3] D (tyl C) (mw C A) X0 u sz (fun u' => IM u' ∧ Un [] [(8, 8)] [] u u' ∧ True) := by
  refine mV (by decide) (Nat.le_of_ble_eq_true rfl) ?_
  intro p e s m below meth c ls ar Q hx hb hml hown hts hK hH hX hl hret
  have hown : s.vm.findClass RX10 = some m.cls := hown
  have hl : lv_has ls 5 [(0, .ref (A 8)), (1, .int 30), (2, .int 0), (3, .int 3)] := hl
  refine lv_iconst (v := 0) hx hb dX10_copyRow_0 (by decide) ?_
  refine lv_istore (lv' := [(4, .int 0), (0, .ref (A 8)), (1, .int 30), (2, .int 0), (3, .int 3)]) hx hb dX10_copyRow_1 hl (by decide) rfl (fun ls hl => ?_)
  have lp3_64 : ∀ (n3 : Nat) (ls : Array Slot) (y63d : Int32) (u64 : St) (H : Heap) (locs : List Loc), 0 ≤ y63d.toInt → y63d.toInt ≤ 30 → 30 - y63d.toInt < (n3 : Int) → Un [] [(8, 8)] [] u u64 → IM u64 → Hd D (mw C A) (va_A (mw C A u) s.heap.size) s.heap u64 H locs → lv_has ls 5 [(4, .int y63d), (0, .ref (A 8)), (1, .int 30), (2, .int 0), (3, .int 3)] → W p l e (rmL 1 0 0) s m ar below meth c H locs 0 0 Q (F0 m 3 ls []) := by
    intro n3
    induction n3 with
    | zero => intro ls y63d u64 H locs ly63d my63d hmun3 hUu64 hI hH hl; exfalso; omega
    | succ n3 ih3_64 =>
      intro ls y63d u64 H locs ly63d my63d hmun3 hUu64 hI hH hl
      refine lv_iload hx hb dX10_copyRow_3 (lv_at hl 0 rfl) ?_
      refine lv_iload_n hx hb dX10_copyRow_5 rfl (lv_at hl 2 rfl) ?_
      refine lv_icmp_ge (tgt := 31) hx hb dX10_copyRow_6 (by decide) (fun c66 => ?_) (fun c66 => ?_)
      · have c66 := cLE (x := 30) (y := y63d) (X := 30) (Y := y63d.toInt) (by decide) rfl c66
        exact hret _ _ _ _ _ dX10_copyRow_31 ⟨hI, (Un.tr Un.rf hUu64 rfl rfl rfl), trivial⟩ hH
      · have c66 := cNLE (x := 30) (y := y63d) (X := 30) (Y := y63d.toInt) (by decide) rfl c66
        refine lv_aload_n hx hb dX10_copyRow_9 rfl (lv_at hl 1 rfl) ?_
        refine lv_iload_n hx hb dX10_copyRow_10 rfl (lv_at hl 2 rfl) ?_
        refine lv_iload_n hx hb dX10_copyRow_11 rfl (lv_at hl 4 rfl) ?_
        refine lv_imul hx hb dX10_copyRow_12 ?_
        refine pv_i (v := 90) (by decide) ?_
        refine lv_iload hx hb dX10_copyRow_13 (lv_at hl 0 rfl) ?_
        refine lv_iadd hx hb dX10_copyRow_15 ?_
        refine p_nm (tt_add (X := 90) (Y := y63d.toInt) (by decide) rfl (by omega) (by omega)) (fun z67 hz67 => ?_)
        refine lv_aload_n hx hb dX10_copyRow_16 rfl (lv_at hl 1 rfl) ?_
        refine lv_iload_n hx hb dX10_copyRow_17 rfl (lv_at hl 2 rfl) ?_
        refine lv_iload_n hx hb dX10_copyRow_18 rfl (lv_at hl 3 rfl) ?_
        refine lv_imul hx hb dX10_copyRow_19 ?_
        refine pv_i (v := 0) (by decide) ?_
        refine lv_iload hx hb dX10_copyRow_20 (lv_at hl 0 rfl) ?_
        refine lv_iadd hx hb dX10_copyRow_22 ?_
        refine p_nm (tt_add (X := 0) (Y := y63d.toInt) (by decide) rfl (by omega) (by omega)) (fun z68 hz68 => ?_)
        refine va_iald hx hb hK hH.1 8 1 (mwc8 C A u64) rfl (i_ix hz68 (by omega) (by omega)) dX10_copyRow_23 ?_
        refine p_any (fun z69 => ?_)
        refine r_iast (j := 8) hx hb hK hH 8 1 (mwc8 C A u64) rfl (i_ix hz67 (by omega) (by omega)) (mwa8 C A u64) dX10_copyRow_24 (fun u70 eu70 H locs hH => ?_)
        have hI := hI.pa0 eu70 (by decide) (by decide) (by decide)
        obtain ⟨z71, ez71⟩ : ∃ z, z = y63d + Int32.ofInt 1 := ⟨_, rfl⟩
        have hz71 : z71.toInt = y63d.toInt + 1 := by rw [ez71]; exact tt_add rfl (by decide) (by omega) (by omega)
        refine lv_iinc (v := z71) (lv' := [(4, .int z71), (0, .ref (A 8)), (1, .int 30), (2, .int 0), (3, .int 3)]) hx hb dX10_copyRow_25 hl (k := 0) rfl ez71.symm (by decide) rfl (fun ls hl => ?_)
        refine lv_goto (tgt := 3) hx hb dX10_copyRow_28 (by decide) ?_
        exact ih3_64 ls z71 u70 _ _ (by have q9 := (show z71.toInt = (y63d.toInt + 1) from hz71); omega) (by have q9 := (show z71.toInt = (y63d.toInt + 1) from hz71); omega) (by have q9 := (show z71.toInt = (y63d.toInt + 1) from hz71); omega) (Un.sa hUu64 rfl eu70) hI hH hl
  exact lp3_64 31 ls 0 u _ _ (by decide) (by decide) (by have q9 : (0 : Int32).toInt = 0 := (by decide); omega) Un.rf hI hH hl
set_option maxHeartbeats 4000000 in
set_option maxRecDepth 100000 in
theorem kX10_copyRow_28 (l : Launch) (D : va_G) (C : Nat → ClassId) (A : Nat → Nat) (u : St) (hI : IM u) (sz : Nat) : MetV l yX10_copyRow cX10_copyRow 5 1 [.ref (A 9), .int 5, .int 0, .int 3] D (tyl C) (mw C A) X0 u sz (fun u' => IM u' ∧ Un [] [(9, 9)] [] u u' ∧ True) := by
  refine mV (by decide) (Nat.le_of_ble_eq_true rfl) ?_
  intro p e s m below meth c ls ar Q hx hb hml hown hts hK hH hX hl hret
  have hown : s.vm.findClass RX10 = some m.cls := hown
  have hl : lv_has ls 5 [(0, .ref (A 9)), (1, .int 5), (2, .int 0), (3, .int 3)] := hl
  refine lv_iconst (v := 0) hx hb dX10_copyRow_0 (by decide) ?_
  refine lv_istore (lv' := [(4, .int 0), (0, .ref (A 9)), (1, .int 5), (2, .int 0), (3, .int 3)]) hx hb dX10_copyRow_1 hl (by decide) rfl (fun ls hl => ?_)
  have lp3_37 : ∀ (n3 : Nat) (ls : Array Slot) (y36d : Int32) (u37 : St) (H : Heap) (locs : List Loc), 0 ≤ y36d.toInt → y36d.toInt ≤ 5 → 5 - y36d.toInt < (n3 : Int) → Un [] [(9, 9)] [] u u37 → IM u37 → Hd D (mw C A) (va_A (mw C A u) s.heap.size) s.heap u37 H locs → lv_has ls 5 [(4, .int y36d), (0, .ref (A 9)), (1, .int 5), (2, .int 0), (3, .int 3)] → W p l e (rmL 1 0 0) s m ar below meth c H locs 0 0 Q (F0 m 3 ls []) := by
    intro n3
    induction n3 with
    | zero => intro ls y36d u37 H locs ly36d my36d hmun3 hUu37 hI hH hl; exfalso; omega
    | succ n3 ih3_37 =>
      intro ls y36d u37 H locs ly36d my36d hmun3 hUu37 hI hH hl
      refine lv_iload hx hb dX10_copyRow_3 (lv_at hl 0 rfl) ?_
      refine lv_iload_n hx hb dX10_copyRow_5 rfl (lv_at hl 2 rfl) ?_
      refine lv_icmp_ge (tgt := 31) hx hb dX10_copyRow_6 (by decide) (fun c39 => ?_) (fun c39 => ?_)
      · have c39 := cLE (x := 5) (y := y36d) (X := 5) (Y := y36d.toInt) (by decide) rfl c39
        exact hret _ _ _ _ _ dX10_copyRow_31 ⟨hI, (Un.tr Un.rf hUu37 rfl rfl rfl), trivial⟩ hH
      · have c39 := cNLE (x := 5) (y := y36d) (X := 5) (Y := y36d.toInt) (by decide) rfl c39
        refine lv_aload_n hx hb dX10_copyRow_9 rfl (lv_at hl 1 rfl) ?_
        refine lv_iload_n hx hb dX10_copyRow_10 rfl (lv_at hl 2 rfl) ?_
        refine lv_iload_n hx hb dX10_copyRow_11 rfl (lv_at hl 4 rfl) ?_
        refine lv_imul hx hb dX10_copyRow_12 ?_
        refine pv_i (v := 15) (by decide) ?_
        refine lv_iload hx hb dX10_copyRow_13 (lv_at hl 0 rfl) ?_
        refine lv_iadd hx hb dX10_copyRow_15 ?_
        refine p_nm (tt_add (X := 15) (Y := y36d.toInt) (by decide) rfl (by omega) (by omega)) (fun z40 hz40 => ?_)
        refine lv_aload_n hx hb dX10_copyRow_16 rfl (lv_at hl 1 rfl) ?_
        refine lv_iload_n hx hb dX10_copyRow_17 rfl (lv_at hl 2 rfl) ?_
        refine lv_iload_n hx hb dX10_copyRow_18 rfl (lv_at hl 3 rfl) ?_
        refine lv_imul hx hb dX10_copyRow_19 ?_
        refine pv_i (v := 0) (by decide) ?_
        refine lv_iload hx hb dX10_copyRow_20 (lv_at hl 0 rfl) ?_
        refine lv_iadd hx hb dX10_copyRow_22 ?_
        refine p_nm (tt_add (X := 0) (Y := y36d.toInt) (by decide) rfl (by omega) (by omega)) (fun z41 hz41 => ?_)
        refine va_iald hx hb hK hH.1 9 1 (mwc9 C A u37) rfl (i_ix hz41 (by omega) (by omega)) dX10_copyRow_23 ?_
        refine p_any (fun z42 => ?_)
        refine r_iast (j := 9) hx hb hK hH 9 1 (mwc9 C A u37) rfl (i_ix hz40 (by omega) (by omega)) (mwa9 C A u37) dX10_copyRow_24 (fun u43 eu43 H locs hH => ?_)
        have hI := hI.pa0 eu43 (by decide) (by decide) (by decide)
        obtain ⟨z44, ez44⟩ : ∃ z, z = y36d + Int32.ofInt 1 := ⟨_, rfl⟩
        have hz44 : z44.toInt = y36d.toInt + 1 := by rw [ez44]; exact tt_add rfl (by decide) (by omega) (by omega)
        refine lv_iinc (v := z44) (lv' := [(4, .int z44), (0, .ref (A 9)), (1, .int 5), (2, .int 0), (3, .int 3)]) hx hb dX10_copyRow_25 hl (k := 0) rfl ez44.symm (by decide) rfl (fun ls hl => ?_)
        refine lv_goto (tgt := 3) hx hb dX10_copyRow_28 (by decide) ?_
        exact ih3_37 ls z44 u43 _ _ (by have q9 := (show z44.toInt = (y36d.toInt + 1) from hz44); omega) (by have q9 := (show z44.toInt = (y36d.toInt + 1) from hz44); omega) (by have q9 := (show z44.toInt = (y36d.toInt + 1) from hz44); omega) (Un.sa hUu37 rfl eu43) hI hH hl
  exact lp3_37 6 ls 0 u _ _ (by decide) (by decide) (by have q9 : (0 : Int32).toInt = 0 := (by decide); omega) Un.rf hI hH hl
set_option maxHeartbeats 4000000 in
set_option maxRecDepth 100000 in
theorem kX10_copyRow_29 (l : Launch) (D : va_G) (C : Nat → ClassId) (A : Nat → Nat) (u : St) (hI : IM u) (sz : Nat) : MetV l yX10_copyRow cX10_copyRow 5 1 [.ref (A 10), .int 120, .int 0, .int 3] D (tyl C) (mw C A) X0 u sz (fun u' => IM u' ∧ Un [] [(10, 10)] [] u u' ∧ True) := by
  refine mV (by decide) (Nat.le_of_ble_eq_true rfl) ?_
  intro p e s m below meth c ls ar Q hx hb hml hown hts hK hH hX hl hret
  have hown : s.vm.findClass RX10 = some m.cls := hown
  have hl : lv_has ls 5 [(0, .ref (A 10)), (1, .int 120), (2, .int 0), (3, .int 3)] := hl
  refine lv_iconst (v := 0) hx hb dX10_copyRow_0 (by decide) ?_
  refine lv_istore (lv' := [(4, .int 0), (0, .ref (A 10)), (1, .int 120), (2, .int 0), (3, .int 3)]) hx hb dX10_copyRow_1 hl (by decide) rfl (fun ls hl => ?_)
  have lp3_109 : ∀ (n3 : Nat) (ls : Array Slot) (y108d : Int32) (u109 : St) (H : Heap) (locs : List Loc), 0 ≤ y108d.toInt → y108d.toInt ≤ 120 → 120 - y108d.toInt < (n3 : Int) → Un [] [(10, 10)] [] u u109 → IM u109 → Hd D (mw C A) (va_A (mw C A u) s.heap.size) s.heap u109 H locs → lv_has ls 5 [(4, .int y108d), (0, .ref (A 10)), (1, .int 120), (2, .int 0), (3, .int 3)] → W p l e (rmL 1 0 0) s m ar below meth c H locs 0 0 Q (F0 m 3 ls []) := by
    intro n3
    induction n3 with
    | zero => intro ls y108d u109 H locs ly108d my108d hmun3 hUu109 hI hH hl; exfalso; omega
    | succ n3 ih3_109 =>
      intro ls y108d u109 H locs ly108d my108d hmun3 hUu109 hI hH hl
      refine lv_iload hx hb dX10_copyRow_3 (lv_at hl 0 rfl) ?_
      refine lv_iload_n hx hb dX10_copyRow_5 rfl (lv_at hl 2 rfl) ?_
      refine lv_icmp_ge (tgt := 31) hx hb dX10_copyRow_6 (by decide) (fun c111 => ?_) (fun c111 => ?_)
      · have c111 := cLE (x := 120) (y := y108d) (X := 120) (Y := y108d.toInt) (by decide) rfl c111
        exact hret _ _ _ _ _ dX10_copyRow_31 ⟨hI, (Un.tr Un.rf hUu109 rfl rfl rfl), trivial⟩ hH
      · have c111 := cNLE (x := 120) (y := y108d) (X := 120) (Y := y108d.toInt) (by decide) rfl c111
        refine lv_aload_n hx hb dX10_copyRow_9 rfl (lv_at hl 1 rfl) ?_
        refine lv_iload_n hx hb dX10_copyRow_10 rfl (lv_at hl 2 rfl) ?_
        refine lv_iload_n hx hb dX10_copyRow_11 rfl (lv_at hl 4 rfl) ?_
        refine lv_imul hx hb dX10_copyRow_12 ?_
        refine pv_i (v := 360) (by decide) ?_
        refine lv_iload hx hb dX10_copyRow_13 (lv_at hl 0 rfl) ?_
        refine lv_iadd hx hb dX10_copyRow_15 ?_
        refine p_nm (tt_add (X := 360) (Y := y108d.toInt) (by decide) rfl (by omega) (by omega)) (fun z112 hz112 => ?_)
        refine lv_aload_n hx hb dX10_copyRow_16 rfl (lv_at hl 1 rfl) ?_
        refine lv_iload_n hx hb dX10_copyRow_17 rfl (lv_at hl 2 rfl) ?_
        refine lv_iload_n hx hb dX10_copyRow_18 rfl (lv_at hl 3 rfl) ?_
        refine lv_imul hx hb dX10_copyRow_19 ?_
        refine pv_i (v := 0) (by decide) ?_
        refine lv_iload hx hb dX10_copyRow_20 (lv_at hl 0 rfl) ?_
        refine lv_iadd hx hb dX10_copyRow_22 ?_
        refine p_nm (tt_add (X := 0) (Y := y108d.toInt) (by decide) rfl (by omega) (by omega)) (fun z113 hz113 => ?_)
        refine va_iald hx hb hK hH.1 10 1 (mwc10 C A u109) rfl (i_ix hz113 (by omega) (by omega)) dX10_copyRow_23 ?_
        refine p_any (fun z114 => ?_)
        refine r_iast (j := 10) hx hb hK hH 10 1 (mwc10 C A u109) rfl (i_ix hz112 (by omega) (by omega)) (mwa10 C A u109) dX10_copyRow_24 (fun u115 eu115 H locs hH => ?_)
        have hI := hI.pa0 eu115 (by decide) (by decide) (by decide)
        obtain ⟨z116, ez116⟩ : ∃ z, z = y108d + Int32.ofInt 1 := ⟨_, rfl⟩
        have hz116 : z116.toInt = y108d.toInt + 1 := by rw [ez116]; exact tt_add rfl (by decide) (by omega) (by omega)
        refine lv_iinc (v := z116) (lv' := [(4, .int z116), (0, .ref (A 10)), (1, .int 120), (2, .int 0), (3, .int 3)]) hx hb dX10_copyRow_25 hl (k := 0) rfl ez116.symm (by decide) rfl (fun ls hl => ?_)
        refine lv_goto (tgt := 3) hx hb dX10_copyRow_28 (by decide) ?_
        exact ih3_109 ls z116 u115 _ _ (by have q9 := (show z116.toInt = (y108d.toInt + 1) from hz116); omega) (by have q9 := (show z116.toInt = (y108d.toInt + 1) from hz116); omega) (by have q9 := (show z116.toInt = (y108d.toInt + 1) from hz116); omega) (Un.sa hUu109 rfl eu115) hI hH hl
  exact lp3_109 121 ls 0 u _ _ (by decide) (by decide) (by have q9 : (0 : Int32).toInt = 0 := (by decide); omega) Un.rf hI hH hl
set_option maxHeartbeats 4000000 in
set_option maxRecDepth 100000 in
theorem kX10_copyTown_5 (l : Launch) (D : va_G) (C : Nat → ClassId) (A : Nat → Nat) (u : St) (hI : IM u) (sz : Nat) : MetV l yX10_copyTown cX10_copyTown 3 2 [.ref (A 0), .int 0, .int 3] D (tyl C) (mw C A) X0 u sz (fun u' => IM u' ∧ Un [] [(6, 6), (7, 7), (8, 8), (9, 9), (10, 10)] [] u u' ∧ True) := by
  refine mV (by decide) (Nat.le_of_ble_eq_true rfl) ?_
  intro p e s m below meth c ls ar Q hx hb hml hown hts hK hH hX hl hret
  have hown : s.vm.findClass RX10 = some m.cls := hown
  have hl : lv_has ls 3 [(0, .ref (A 0)), (1, .int 0), (2, .int 3)] := hl
  refine lv_aload_n hx hb dX10_copyTown_0 rfl (lv_at hl 0 rfl) ?_
  refine va_get (ci := 10) (v := .ref (A 6)) (C := RX10) (T := TX10) (N := 42) hx hb hts (fun w h => uc_in w (inX10 w h)) hown hK hH.1 0 (mwc0 C A u) rfl 16 (by decide) (hts _ (uc_in _ q_f1204)) (fun _ h9 => h9) rfl dX10_copyTown_1 ?_
  refine lv_iconst (v := 1) hx hb dX10_copyTown_4 (by decide) ?_
  refine lv_iload_n hx hb dX10_copyTown_5 rfl (lv_at hl 1 rfl) ?_
  refine lv_iload_n hx hb dX10_copyTown_6 rfl (lv_at hl 2 rfl) ?_
  refine csU (n := 4) (As := [.ref (A 6), .int 1, .int 0, .int 3]) (rest := []) ⟨hx, hb, hml, hown, hts⟩ uc_in (kX10_copyRow_25 l D C A u hI  _) q_m1453 q_s1454 q_i11 q_c1455 hvX10_copyRow ⟨(Nat.le_of_ble_eq_true rfl), (Nat.le_of_ble_eq_true rfl)⟩ ⟨(Nat.le_of_ble_eq_true rfl), (Nat.le_of_ble_eq_true rfl)⟩ hK hH (fun q h => Or.inr h) Bl0 (fun _ _ _ => trivial) rfl hl.1 rfl (Nat.le_of_ble_eq_true rfl) dX10_copyTown_7 (fun u1 H locs p3 hH => ?_)
  obtain ⟨hI, hUu1, p3⟩ := p3
  refine lv_aload_n hx hb dX10_copyTown_10 rfl (lv_at hl 0 rfl) ?_
  refine va_get (ci := 10) (v := .ref (A 7)) (C := RX10) (T := TX10) (N := 42) hx hb hts (fun w h => uc_in w (inX10 w h)) hown hK hH.1 0 (mwc0 C A u1) rfl 17 (by decide) (hts _ (uc_in _ q_f1205)) (fun _ h9 => h9) rfl dX10_copyTown_11 ?_
  refine lv_bipush (v := 6) hx hb dX10_copyTown_14 (by decide) ?_
  refine lv_iload_n hx hb dX10_copyTown_16 rfl (lv_at hl 1 rfl) ?_
  refine lv_iload_n hx hb dX10_copyTown_17 rfl (lv_at hl 2 rfl) ?_
  refine csU (n := 4) (As := [.ref (A 7), .int 6, .int 0, .int 3]) (rest := []) ⟨hx, hb, hml, hown, hts⟩ uc_in (kX10_copyRow_26 l D C A u1 hI  _) q_m1453 q_s1454 q_i11 q_c1455 hvX10_copyRow ⟨(Nat.le_of_ble_eq_true rfl), (Nat.le_of_ble_eq_true rfl)⟩ ⟨(Nat.le_of_ble_eq_true rfl), (Nat.le_of_ble_eq_true rfl)⟩ hK hH (fun q h => Or.inr h) Bl0 (fun _ _ _ => trivial) rfl hl.1 rfl (Nat.le_of_ble_eq_true rfl) dX10_copyTown_18 (fun u4 H locs p6 hH => ?_)
  obtain ⟨hI, hUu4, p6⟩ := p6
  refine lv_aload_n hx hb dX10_copyTown_21 rfl (lv_at hl 0 rfl) ?_
  refine va_get (ci := 10) (v := .ref (A 8)) (C := RX10) (T := TX10) (N := 42) hx hb hts (fun w h => uc_in w (inX10 w h)) hown hK hH.1 0 (mwc0 C A u4) rfl 18 (by decide) (hts _ (uc_in _ q_f1206)) (fun _ h9 => h9) rfl dX10_copyTown_22 ?_
  refine lv_bipush (v := 30) hx hb dX10_copyTown_25 (by decide) ?_
  refine lv_iload_n hx hb dX10_copyTown_27 rfl (lv_at hl 1 rfl) ?_
  refine lv_iload_n hx hb dX10_copyTown_28 rfl (lv_at hl 2 rfl) ?_
  refine csU (n := 4) (As := [.ref (A 8), .int 30, .int 0, .int 3]) (rest := []) ⟨hx, hb, hml, hown, hts⟩ uc_in (kX10_copyRow_27 l D C A u4 hI  _) q_m1453 q_s1454 q_i11 q_c1455 hvX10_copyRow ⟨(Nat.le_of_ble_eq_true rfl), (Nat.le_of_ble_eq_true rfl)⟩ ⟨(Nat.le_of_ble_eq_true rfl), (Nat.le_of_ble_eq_true rfl)⟩ hK hH (fun q h => Or.inr h) Bl0 (fun _ _ _ => trivial) rfl hl.1 rfl (Nat.le_of_ble_eq_true rfl) dX10_copyTown_29 (fun u7 H locs p9 hH => ?_)
  obtain ⟨hI, hUu7, p9⟩ := p9
  refine lv_aload_n hx hb dX10_copyTown_32 rfl (lv_at hl 0 rfl) ?_
  refine va_get (ci := 10) (v := .ref (A 9)) (C := RX10) (T := TX10) (N := 42) hx hb hts (fun w h => uc_in w (inX10 w h)) hown hK hH.1 0 (mwc0 C A u7) rfl 19 (by decide) (hts _ (uc_in _ q_f1207)) (fun _ h9 => h9) rfl dX10_copyTown_33 ?_
  refine lv_iconst (v := 5) hx hb dX10_copyTown_36 (by decide) ?_
  refine lv_iload_n hx hb dX10_copyTown_37 rfl (lv_at hl 1 rfl) ?_
  refine lv_iload_n hx hb dX10_copyTown_38 rfl (lv_at hl 2 rfl) ?_
  refine csU (n := 4) (As := [.ref (A 9), .int 5, .int 0, .int 3]) (rest := []) ⟨hx, hb, hml, hown, hts⟩ uc_in (kX10_copyRow_28 l D C A u7 hI  _) q_m1453 q_s1454 q_i11 q_c1455 hvX10_copyRow ⟨(Nat.le_of_ble_eq_true rfl), (Nat.le_of_ble_eq_true rfl)⟩ ⟨(Nat.le_of_ble_eq_true rfl), (Nat.le_of_ble_eq_true rfl)⟩ hK hH (fun q h => Or.inr h) Bl0 (fun _ _ _ => trivial) rfl hl.1 rfl (Nat.le_of_ble_eq_true rfl) dX10_copyTown_39 (fun u10 H locs p12 hH => ?_)
  obtain ⟨hI, hUu10, p12⟩ := p12
  refine lv_aload_n hx hb dX10_copyTown_42 rfl (lv_at hl 0 rfl) ?_
  refine va_get (ci := 10) (v := .ref (A 10)) (C := RX10) (T := TX10) (N := 42) hx hb hts (fun w h => uc_in w (inX10 w h)) hown hK hH.1 0 (mwc0 C A u10) rfl 20 (by decide) (hts _ (uc_in _ q_f1208)) (fun _ h9 => h9) rfl dX10_copyTown_43 ?_
  refine lv_bipush (v := 120) hx hb dX10_copyTown_46 (by decide) ?_
  refine lv_iload_n hx hb dX10_copyTown_48 rfl (lv_at hl 1 rfl) ?_
  refine lv_iload_n hx hb dX10_copyTown_49 rfl (lv_at hl 2 rfl) ?_
  refine csU (n := 4) (As := [.ref (A 10), .int 120, .int 0, .int 3]) (rest := []) ⟨hx, hb, hml, hown, hts⟩ uc_in (kX10_copyRow_29 l D C A u10 hI  _) q_m1453 q_s1454 q_i11 q_c1455 hvX10_copyRow ⟨(Nat.le_of_ble_eq_true rfl), (Nat.le_of_ble_eq_true rfl)⟩ ⟨(Nat.le_of_ble_eq_true rfl), (Nat.le_of_ble_eq_true rfl)⟩ hK hH (fun q h => Or.inr h) Bl0 (fun _ _ _ => trivial) rfl hl.1 rfl (Nat.le_of_ble_eq_true rfl) dX10_copyTown_50 (fun u13 H locs p15 hH => ?_)
  obtain ⟨hI, hUu13, p15⟩ := p15
  exact hret _ _ _ _ _ dX10_copyTown_53 ⟨hI, (Un.tr (Un.tr (Un.tr (Un.tr (Un.tr Un.rf hUu1 rfl rfl rfl) hUu4 rfl rfl rfl) hUu7 rfl rfl rfl) hUu10 rfl rfl rfl) hUu13 rfl rfl rfl), trivial⟩ hH
set_option maxHeartbeats 4000000 in
set_option maxRecDepth 100000 in
theorem kX10_image_0 (l : Launch) (D : va_G) (C : Nat → ClassId) (A : Nat → Nat) (u : St) (hI : IM u) (a0 : Int32) (A0 : Int) (ha0 : a0.toInt = A0) (sz : Nat) : MetI l yX10_image cX10_image 2 (some .int) 3 [.ref (A 0), .int a0] D (tyl C) (mw C A) X0 u sz (fun r u' => IM u' ∧ Un [(0, 0)] [(6, 6), (7, 7), (8, 8), (9, 9), (10, 10), (11, 11)] [] u u' ∧ ((r = 0 ∧ (0 ≤ A0 ∧ A0 ≤ 2)) ∨ (r = (-2) ∧ (¬ (0 ≤ A0 ∧ A0 ≤ 2))))) := by
  refine mI (by decide) (Nat.le_of_ble_eq_true rfl) ?_
  intro p e s m below meth c ls ar Q hx hb hml hown hts hK hH hX hl hret
  have hown : s.vm.findClass RX10 = some m.cls := hown
  have hl : lv_has ls 2 [(0, .ref (A 0)), (1, .int a0)] := hl
  refine lv_aload_n hx hb dX10_image_0 rfl (lv_at hl 0 rfl) ?_
  refine lv_iconst (v := 0) hx hb dX10_image_1 (by decide) ?_
  refine r_put (j := 0) (ci := 10) (C := RX10) (T := TX10) (N := 42) hx hb hts (fun w h => uc_in w (inX10 w h)) tyX10 tyX10_ok nmX10 hown hK hH 0 (mwc0 C A u) rfl 0 (by decide) (hts _ (uc_in _ q_f1188)) (fun _ h9 => h9) rfl (by decide +kernel) (Nat.le_of_ble_eq_true rfl) (mws0 C A u _) dX10_image_2 (fun u1 eu1 H locs hH => ?_)
  have hI := hI.pi0 eu1 rfl
  refine lv_iload_n hx hb dX10_image_5 rfl (lv_at hl 1 rfl) ?_
  refine lv_i2l (v := a0.toInt64) hx hb dX10_image_6 rfl ?_
  refine lv_lconst (v := 0) hx hb dX10_image_7 (by decide) ?_
  refine lv_ldc2 (v := 2) hx hb hown (hts _ (uc_in _ q_k1909)) dX10_image_8 ?_
  refine csS (n := 3) (As := [.long a0.toInt64, .long 0, .long 2]) (rest := []) ⟨hx, hb, hml, hown, hts⟩ uc_in (kX10_in_0 l D C A u1 hI a0.toInt64 A0 (tt_i2l ha0) (0) 0 (by decide) (2) 2 (by decide)) q_m1324 q_s1325 q_i11 q_c1326 hvX10_in ⟨(Nat.le_of_ble_eq_true rfl), (Nat.le_of_ble_eq_true rfl)⟩ ⟨(Nat.le_of_ble_eq_true rfl), (Nat.le_of_ble_eq_true rfl)⟩ hK hH.1 rfl hl.1 rfl (Nat.le_of_ble_eq_true rfl) dX10_image_11 (fun r2 p3 => ?_)
  rcases p3 with ⟨e9, f4, f5⟩ | ⟨e9, fn6⟩
  · subst e9
    refine lv_if_ne (tgt := 20) hx hb dX10_image_14 (by decide) (fun c7 => ?_) (fun c7 => absurd c7 (by decide))
    refine lv_aload_n hx hb dX10_image_20 rfl (lv_at hl 0 rfl) ?_
    refine lv_iconst (v := 0) hx hb dX10_image_21 (by decide) ?_
    refine lv_iconst (v := 1) hx hb dX10_image_22 (by decide) ?_
    refine lv_iload_n hx hb dX10_image_23 rfl (lv_at hl 1 rfl) ?_
    refine lv_iadd hx hb dX10_image_24 ?_
    refine p_nm (tt_add (X := 1) (Y := A0) (by decide) ha0 (by omega) (by omega)) (fun z8 hz8 => ?_)
    rcases (show (1 + A0) = 1 ∨ (1 + A0) = 2 ∨ (1 + A0) = 3 by omega) with e9 | e9 | e9
    · have e8 : z8 = 1 := i_lit hz8 (by rw [e9]; decide)
      subst e8
      have q8 : (1 : Int32).toInt = 1 := by decide
      refine cvU (n := 2) (As := [.int 0, .int 1]) (rest := []) ⟨hx, hb, hml, hown, hts⟩ uc_in (kX10_copyTown_3 l D C A u1 hI  _) q_m1449 q_n1451 q_p70 q_i11 q_c1452 hvX10_copyTown ⟨(Nat.le_of_ble_eq_true rfl), (Nat.le_of_ble_eq_true rfl)⟩ ⟨(Nat.le_of_ble_eq_true rfl), (Nat.le_of_ble_eq_true rfl)⟩ hK hH (fun q h => Or.inr h) Bl0 (fun _ _ _ => trivial) 10 0 rfl (mwc0 C A u1) rfl hl.1 rfl (Nat.le_of_ble_eq_true rfl) dX10_image_25 (fun u9 H locs p11 hH => ?_)
      obtain ⟨hI, hUu9, p11⟩ := p11
      refine lv_aload_n hx hb dX10_image_28 rfl (lv_at hl 0 rfl) ?_
      refine va_get (ci := 10) (v := .ref (A 11)) (C := RX10) (T := TX10) (N := 42) hx hb hts (fun w h => uc_in w (inX10 w h)) hown hK hH.1 0 (mwc0 C A u9) rfl 21 (by decide) (hts _ (uc_in _ q_f1209)) (fun _ h9 => h9) rfl dX10_image_29 ?_
      refine lv_iload_n hx hb dX10_image_32 rfl (lv_at hl 1 rfl) ?_
      refine lv_iconst (v := 1) hx hb dX10_image_33 (by decide) ?_
      refine r_zast (j := 11) hx hb hK hH 11 3 (mwc11 C A u9) rfl (i_ix ha0 (by omega) (by omega)) (mwa11 C A u9) dX10_image_34 (fun u12 eu12 H locs hH => ?_)
      have hI := hI.pa0 eu12 (by decide) (by decide) (by decide)
      refine lv_iconst (v := 0) hx hb dX10_image_35 (by decide) ?_
      exact hret _ _ _ _ (0 : Int32) _ dX10_image_36 rfl ⟨hI, (Un.sa (Un.tr (Un.si Un.rf rfl eu1) hUu9 rfl rfl rfl) rfl eu12), (Or.inl ⟨rfl, by omega⟩)⟩ hH
    · have e8 : z8 = 2 := i_lit hz8 (by rw [e9]; decide)
      subst e8
      have q8 : (2 : Int32).toInt = 2 := by decide
      refine cvU (n := 2) (As := [.int 0, .int 2]) (rest := []) ⟨hx, hb, hml, hown, hts⟩ uc_in (kX10_copyTown_4 l D C A u1 hI  _) q_m1449 q_n1451 q_p70 q_i11 q_c1452 hvX10_copyTown ⟨(Nat.le_of_ble_eq_true rfl), (Nat.le_of_ble_eq_true rfl)⟩ ⟨(Nat.le_of_ble_eq_true rfl), (Nat.le_of_ble_eq_true rfl)⟩ hK hH (fun q h => Or.inr h) Bl0 (fun _ _ _ => trivial) 10 0 rfl (mwc0 C A u1) rfl hl.1 rfl (Nat.le_of_ble_eq_true rfl) dX10_image_25 (fun u13 H locs p15 hH => ?_)
      obtain ⟨hI, hUu13, p15⟩ := p15
      refine lv_aload_n hx hb dX10_image_28 rfl (lv_at hl 0 rfl) ?_
      refine va_get (ci := 10) (v := .ref (A 11)) (C := RX10) (T := TX10) (N := 42) hx hb hts (fun w h => uc_in w (inX10 w h)) hown hK hH.1 0 (mwc0 C A u13) rfl 21 (by decide) (hts _ (uc_in _ q_f1209)) (fun _ h9 => h9) rfl dX10_image_29 ?_
      refine lv_iload_n hx hb dX10_image_32 rfl (lv_at hl 1 rfl) ?_
      refine lv_iconst (v := 1) hx hb dX10_image_33 (by decide) ?_
      refine r_zast (j := 11) hx hb hK hH 11 3 (mwc11 C A u13) rfl (i_ix ha0 (by omega) (by omega)) (mwa11 C A u13) dX10_image_34 (fun u16 eu16 H locs hH => ?_)
      have hI := hI.pa0 eu16 (by decide) (by decide) (by decide)
      refine lv_iconst (v := 0) hx hb dX10_image_35 (by decide) ?_
      exact hret _ _ _ _ (0 : Int32) _ dX10_image_36 rfl ⟨hI, (Un.sa (Un.tr (Un.si Un.rf rfl eu1) hUu13 rfl rfl rfl) rfl eu16), (Or.inl ⟨rfl, by omega⟩)⟩ hH
    · have e8 : z8 = 3 := i_lit hz8 (by rw [e9]; decide)
      subst e8
      have q8 : (3 : Int32).toInt = 3 := by decide
      refine cvU (n := 2) (As := [.int 0, .int 3]) (rest := []) ⟨hx, hb, hml, hown, hts⟩ uc_in (kX10_copyTown_5 l D C A u1 hI  _) q_m1449 q_n1451 q_p70 q_i11 q_c1452 hvX10_copyTown ⟨(Nat.le_of_ble_eq_true rfl), (Nat.le_of_ble_eq_true rfl)⟩ ⟨(Nat.le_of_ble_eq_true rfl), (Nat.le_of_ble_eq_true rfl)⟩ hK hH (fun q h => Or.inr h) Bl0 (fun _ _ _ => trivial) 10 0 rfl (mwc0 C A u1) rfl hl.1 rfl (Nat.le_of_ble_eq_true rfl) dX10_image_25 (fun u17 H locs p19 hH => ?_)
      obtain ⟨hI, hUu17, p19⟩ := p19
      refine lv_aload_n hx hb dX10_image_28 rfl (lv_at hl 0 rfl) ?_
      refine va_get (ci := 10) (v := .ref (A 11)) (C := RX10) (T := TX10) (N := 42) hx hb hts (fun w h => uc_in w (inX10 w h)) hown hK hH.1 0 (mwc0 C A u17) rfl 21 (by decide) (hts _ (uc_in _ q_f1209)) (fun _ h9 => h9) rfl dX10_image_29 ?_
      refine lv_iload_n hx hb dX10_image_32 rfl (lv_at hl 1 rfl) ?_
      refine lv_iconst (v := 1) hx hb dX10_image_33 (by decide) ?_
      refine r_zast (j := 11) hx hb hK hH 11 3 (mwc11 C A u17) rfl (i_ix ha0 (by omega) (by omega)) (mwa11 C A u17) dX10_image_34 (fun u20 eu20 H locs hH => ?_)
      have hI := hI.pa0 eu20 (by decide) (by decide) (by decide)
      refine lv_iconst (v := 0) hx hb dX10_image_35 (by decide) ?_
      exact hret _ _ _ _ (0 : Int32) _ dX10_image_36 rfl ⟨hI, (Un.sa (Un.tr (Un.si Un.rf rfl eu1) hUu17 rfl rfl rfl) rfl eu20), (Or.inl ⟨rfl, by omega⟩)⟩ hH
  · subst e9
    refine lv_if_ne (tgt := 20) hx hb dX10_image_14 (by decide) (fun c21 => absurd c21 (by decide)) (fun c21 => ?_)
    refine lv_bipush (v := (-2)) hx hb dX10_image_17 (by decide) ?_
    exact hret _ _ _ _ ((-2) : Int32) _ dX10_image_19 rfl ⟨hI, (Un.si Un.rf rfl eu1), (Or.inr (⟨rfl, by omega⟩))⟩ hH
set_option maxHeartbeats 4000000 in
set_option maxRecDepth 100000 in
theorem kX10_late_0 (l : Launch) (D : va_G) (C : Nat → ClassId) (A : Nat → Nat) (u : St) (hI : IM u) (a0 : Int32) (A0 : Int) (ha0 : a0.toInt = A0) (a1 : Int32) (A1 : Int) (ha1 : a1.toInt = A1) (sz : Nat) : MetI l yX10_late cX10_late 3 (some .int) 4 [.ref (A 0), .int a0, .int a1] D (tyl C) (mw C A) X0 u sz (fun r u' => IM u' ∧ Un [(0, 0), (24, 24), (25, 25)] [(12, 12), (13, 13)] [] u u' ∧ (True)) := by
  refine mI (by decide) (Nat.le_of_ble_eq_true rfl) ?_
  intro p e s m below meth c ls ar Q hx hb hml hown hts hK hH hX hl hret
  have hown : s.vm.findClass RX10 = some m.cls := hown
  have hl : lv_has ls 3 [(0, .ref (A 0)), (1, .int a0), (2, .int a1)] := hl
  refine lv_aload_n hx hb dX10_late_0 rfl (lv_at hl 0 rfl) ?_
  refine lv_iconst (v := 0) hx hb dX10_late_1 (by decide) ?_
  refine r_put (j := 0) (ci := 10) (C := RX10) (T := TX10) (N := 42) hx hb hts (fun w h => uc_in w (inX10 w h)) tyX10 tyX10_ok nmX10 hown hK hH 0 (mwc0 C A u) rfl 0 (by decide) (hts _ (uc_in _ q_f1188)) (fun _ h9 => h9) rfl (by decide +kernel) (Nat.le_of_ble_eq_true rfl) (mws0 C A u _) dX10_late_2 (fun u1 eu1 H locs hH => ?_)
  have hI := hI.pi0 eu1 rfl
  refine lv_aload_n hx hb dX10_late_5 rfl (lv_at hl 0 rfl) ?_
  refine lv_iload_n hx hb dX10_late_6 rfl (lv_at hl 1 rfl) ?_
  refine lv_i2l (v := a0.toInt64) hx hb dX10_late_7 rfl ?_
  refine cvS (n := 1) (As := [.long a0.toInt64]) (rest := []) ⟨hx, hb, hml, hown, hts⟩ uc_in (kX10_isClock_0 l D C A u1 hI a0.toInt64 A0 (tt_i2l ha0)) q_m1460 q_n1462 q_p71 q_i11 q_c1463 hvX10_isClock ⟨(Nat.le_of_ble_eq_true rfl), (Nat.le_of_ble_eq_true rfl)⟩ ⟨(Nat.le_of_ble_eq_true rfl), (Nat.le_of_ble_eq_true rfl)⟩ hK hH.1 10 0 rfl (mwc0 C A u1) rfl hl.1 rfl (Nat.le_of_ble_eq_true rfl) dX10_late_8 (fun r2 p3 => ?_)
  rcases p3 with ⟨e9, f4, f5⟩ | e9
  · subst e9
    have b7 : 0 ≤ ((ga u1 7 3)).toInt ∧ ((ga u1 7 3)).toInt ≤ 6 := hI.has 3
    refine lv_if_eq (tgt := 23) hx hb dX10_late_11 (by decide) (fun c8 => absurd c8 (by decide)) (fun c8 => ?_)
    refine lv_aload_n hx hb dX10_late_14 rfl (lv_at hl 0 rfl) ?_
    refine lv_iload_n hx hb dX10_late_15 rfl (lv_at hl 2 rfl) ?_
    refine lv_i2l (v := a1.toInt64) hx hb dX10_late_16 rfl ?_
    refine cvS (n := 1) (As := [.long a1.toInt64]) (rest := []) ⟨hx, hb, hml, hown, hts⟩ uc_in (kX10_isDay_0 l D C A u1 hI a1.toInt64 A1 (tt_i2l ha1)) q_m1473 q_n1475 q_p73 q_i11 q_c1476 hvX10_isDay ⟨(Nat.le_of_ble_eq_true rfl), (Nat.le_of_ble_eq_true rfl)⟩ ⟨(Nat.le_of_ble_eq_true rfl), (Nat.le_of_ble_eq_true rfl)⟩ hK hH.1 10 0 rfl (mwc0 C A u1) rfl hl.1 rfl (Nat.le_of_ble_eq_true rfl) dX10_late_17 (fun r9 p10 => ?_)
    rcases p10 with ⟨e9, f11, f12⟩ | e9
    · subst e9
      have b14 : 0 ≤ ((ga u1 7 0)).toInt ∧ ((ga u1 7 0)).toInt ≤ 7 := hI.has 0
      refine lv_if_ne (tgt := 27) hx hb dX10_late_20 (by decide) (fun c15 => ?_) (fun c15 => absurd c15 (by decide))
      refine lv_aload_n hx hb dX10_late_27 rfl (lv_at hl 0 rfl) ?_
      refine cvU (n := 0) (As := []) (rest := []) ⟨hx, hb, hml, hown, hts⟩ uc_in (kX10_lays_0 l D C A u1 hI  _) q_m1481 q_n1483 q_p75 q_i11 q_c1484 hvX10_lays ⟨(Nat.le_of_ble_eq_true rfl), (Nat.le_of_ble_eq_true rfl)⟩ ⟨(Nat.le_of_ble_eq_true rfl), (Nat.le_of_ble_eq_true rfl)⟩ hK hH (fun q h => Or.inr h) Bl0 (fun _ _ _ => trivial) 10 0 rfl (mwc0 C A u1) rfl hl.1 rfl (Nat.le_of_ble_eq_true rfl) dX10_late_28 (fun u16 H locs p18 hH => ?_)
      obtain ⟨hI, hUu16, p18⟩ := p18
      refine lv_aload_n hx hb dX10_late_31 rfl (lv_at hl 0 rfl) ?_
      refine va_get (ci := 10) (v := .ref (A 12)) (C := RX10) (T := TX10) (N := 42) hx hb hts (fun w h => uc_in w (inX10 w h)) hown hK hH.1 0 (mwc0 C A u16) rfl 22 (by decide) (hts _ (uc_in _ q_f1210)) (fun _ h9 => h9) rfl dX10_late_32 ?_
      refine lv_bipush (v := 6) hx hb dX10_late_35 (by decide) ?_
      refine lv_iload_n hx hb dX10_late_37 rfl (lv_at hl 2 rfl) ?_
      refine lv_imul hx hb dX10_late_38 ?_
      refine p_nm (tt_mul (X := 6) (Y := A1) (by decide) ha1 (by omega) (by omega)) (fun z19 hz19 => ?_)
      refine lv_iload_n hx hb dX10_late_39 rfl (lv_at hl 1 rfl) ?_
      refine lv_iadd hx hb dX10_late_40 ?_
      refine p_nm (tt_add (X := (6 * A1)) (Y := A0) hz19 ha0 (by omega) (by omega)) (fun z20 hz20 => ?_)
      refine va_iald hx hb hK hH.1 12 1 (mwc12 C A u16) rfl (i_ix hz20 (by omega) (by omega)) dX10_late_41 ?_
      refine p_any (fun z21 => ?_)
      exact hret _ _ _ _ z21 _ dX10_late_42 rfl ⟨hI, (Un.tr (Un.si Un.rf rfl eu1) hUu16 rfl rfl rfl), trivial⟩ hH
    · subst e9
      refine lv_if_ne (tgt := 27) hx hb dX10_late_20 (by decide) (fun c22 => absurd c22 (by decide)) (fun c22 => ?_)
      refine lv_sipush (v := (-1000)) hx hb dX10_late_23 (by decide) ?_
      exact hret _ _ _ _ ((-1000) : Int32) _ dX10_late_26 rfl ⟨hI, (Un.si Un.rf rfl eu1), trivial⟩ hH
  · subst e9
    refine lv_if_eq (tgt := 23) hx hb dX10_late_11 (by decide) (fun c23 => ?_) (fun c23 => absurd c23 (by decide))
    refine lv_sipush (v := (-1000)) hx hb dX10_late_23 (by decide) ?_
    exact hret _ _ _ _ ((-1000) : Int32) _ dX10_late_26 rfl ⟨hI, (Un.si Un.rf rfl eu1), trivial⟩ hH
set_option maxHeartbeats 4000000 in
set_option maxRecDepth 100000 in
theorem kX10_orderOf_0 (l : Launch) (D : va_G) (C : Nat → ClassId) (A : Nat → Nat) (u : St) (hI : IM u) (a0 : Int32) (A0 : Int) (ha0 : a0.toInt = A0) (a1 : Int32) (A1 : Int) (ha1 : a1.toInt = A1) (hl0 : 0 ≤ A0) (hm0 : A0 ≤ 6) : Met l yX10_orderOf (uc yX10_orderOf cX10_orderOf 7 (some .int)) (rmL 3 0 0) (va_Pc [.ref (A 0), .int a0, .int a1] (PreR D (tyl C) (mw C A u))) (vp_Si (fun r => (-1 ≤ r.toInt ∧ r.toInt ≤ 5) ∧ (0 ≤ r.toInt ∨ OR u A0 (ga u 7 3).toInt (cntF u A0.toNat ((ga u 7 3).toInt).toNat) A1 (ga u 7 3).toInt))) 0 0 (fun _ => False) := by
  refine mS (by decide) (Nat.le_of_ble_eq_true rfl) ?_
  intro p e s m below meth c ls ar Q hx hb hml hown hts hK hP hl hret
  have hown : s.vm.findClass RX10 = some m.cls := hown
  have hl : lv_has ls 7 [(0, .ref (A 0)), (1, .int a0), (2, .int a1)] := hl
  refine lv_aload_n hx hb dX10_orderOf_0 rfl (lv_at hl 0 rfl) ?_
  refine lv_iload_n hx hb dX10_orderOf_1 rfl (lv_at hl 1 rfl) ?_
  refine cvS (n := 1) (As := [.int a0]) (rest := []) ⟨hx, hb, hml, hown, hts⟩ uc_in (kX10_countsOf_0 l D C A u hI a0 A0 ha0 (by omega) (by omega)) q_m1500 q_n1502 q_p78 q_i11 q_c1503 hvX10_countsOf ⟨(Nat.le_of_ble_eq_true rfl), (Nat.le_of_ble_eq_true rfl)⟩ ⟨(Nat.le_of_ble_eq_true rfl), (Nat.le_of_ble_eq_true rfl)⟩ hK hP 10 0 rfl (mwc0 C A u) rfl hl.1 rfl (Nat.le_of_ble_eq_true rfl) dX10_orderOf_2 (fun r1 p2 => ?_)
  have g3 : (ga u 7 3).toInt ≤ 6 := (hI.has 3).2
  have br1 : 0 ≤ r1.toInt ∧ r1.toInt ≤ 63 := ⟨p2.1, p2.2.1⟩
  refine lv_istore_n (lv' := [(3, .int r1), (0, .ref (A 0)), (1, .int a0), (2, .int a1)]) hx hb dX10_orderOf_5 rfl hl (by decide) rfl (fun ls hl => ?_)
  refine lv_iconst (v := 0) hx hb dX10_orderOf_6 (by decide) ?_
  refine lv_istore (lv' := [(4, .int 0), (3, .int r1), (0, .ref (A 0)), (1, .int a0), (2, .int a1)]) hx hb dX10_orderOf_7 hl (by decide) rfl (fun ls hl => ?_)
  have lp9_1017 : ∀ (n9 : Nat) (ls : Array Slot) (y1017d : Int32), 0 ≤ y1017d.toInt → y1017d.toInt ≤ 6 → OR u A0 (ga u 7 3).toInt r1 A1 y1017d.toInt → 6 - y1017d.toInt < (n9 : Int) → lv_has ls 7 [(4, .int y1017d), (3, .int r1), (0, .ref (A 0)), (1, .int a0), (2, .int a1)] → W p l e (rmL 3 0 0) s m ar below meth c s.heap [] 0 0 Q (F0 m 9 ls []) := by
    intro n9
    induction n9 with
    | zero => intro ls y1017d ly1017d my1017d x9_0 hmun9 hl; exfalso; omega
    | succ n9 ih9_1017 =>
      intro ls y1017d ly1017d my1017d x9_0 hmun9 hl
      refine lv_iload hx hb dX10_orderOf_9 (lv_at hl 0 rfl) ?_
      refine lv_aload_n hx hb dX10_orderOf_11 rfl (lv_at hl 2 rfl) ?_
      refine cvS (n := 0) (As := []) (rest := [.int y1017d]) ⟨hx, hb, hml, hown, hts⟩ uc_in (kX10_clocks_0 l D C A u hI ) q_m1464 q_n1466 q_p72 q_i11 q_c1467 hvX10_clocks ⟨(Nat.le_of_ble_eq_true rfl), (Nat.le_of_ble_eq_true rfl)⟩ ⟨(Nat.le_of_ble_eq_true rfl), (Nat.le_of_ble_eq_true rfl)⟩ hK hP 10 0 rfl (mwc0 C A u) rfl hl.1 rfl (Nat.le_of_ble_eq_true rfl) dX10_orderOf_12 (fun r1019 p1020 => ?_)
      subst p1020
      have b1021 : 0 ≤ ((ga u 7 3)).toInt ∧ ((ga u 7 3)).toInt ≤ 6 := hI.has 3
      refine lv_icmp_ge (tgt := 146) hx hb dX10_orderOf_15 (by decide) (fun c1022 => ?_) (fun c1022 => ?_)
      · have c1022 := cLE (x := (ga u 7 3)) (y := y1017d) (X := ((ga u 7 3)).toInt) (Y := y1017d.toInt) rfl rfl c1022
        refine lv_iconst (v := (-1)) hx hb dX10_orderOf_146 (by decide) ?_
        exact hret _ _ ((-1) : Int32) dX10_orderOf_147 rfl ⟨⟨by decide, by decide⟩, Or.inr (by rw [← p2.2.2.2]; exact fun k hk => x9_0 k (by omega))⟩
      · have c1022 := cNLE (x := (ga u 7 3)) (y := y1017d) (X := ((ga u 7 3)).toInt) (Y := y1017d.toInt) rfl rfl c1022
        refine lv_iload_n hx hb dX10_orderOf_18 rfl (lv_at hl 1 rfl) ?_
        refine lv_iload hx hb dX10_orderOf_19 (lv_at hl 0 rfl) ?_
        refine csS (n := 2) (As := [.int r1, .int y1017d]) (rest := []) ⟨hx, hb, hml, hown, hts⟩ uc_in (kX10_isBit_0 l D C A u hI r1 r1.toInt rfl y1017d y1017d.toInt rfl) q_m1489 q_s1490 q_i11 q_c1491 hvX10_isBit ⟨(Nat.le_of_ble_eq_true rfl), (Nat.le_of_ble_eq_true rfl)⟩ ⟨(Nat.le_of_ble_eq_true rfl), (Nat.le_of_ble_eq_true rfl)⟩ hK hP rfl hl.1 rfl (Nat.le_of_ble_eq_true rfl) dX10_orderOf_21 (fun r1023 p1024 => ?_)
        rcases p1024 with ⟨e9, f1025⟩ | ⟨e9, f1025⟩
        · subst e9
          refine lv_if_ne (tgt := 30) hx hb dX10_orderOf_24 (by decide) (fun c1026 => ?_) (fun c1026 => absurd c1026 (by decide))
          refine lv_iconst (v := 0) hx hb dX10_orderOf_30 (by decide) ?_
          refine lv_istore (lv' := [(5, .int 0), (4, .int y1017d), (3, .int r1), (0, .ref (A 0)), (1, .int a0), (2, .int a1)]) hx hb dX10_orderOf_31 hl (by decide) rfl (fun ls hl => ?_)
          refine lv_iconst (v := 0) hx hb dX10_orderOf_33 (by decide) ?_
          refine lv_istore (lv' := [(6, .int 0), (5, .int 0), (4, .int y1017d), (3, .int r1), (0, .ref (A 0)), (1, .int a0), (2, .int a1)]) hx hb dX10_orderOf_34 hl (by decide) rfl (fun ls hl => ?_)
          have lp36_1189 : ∀ (n36 : Nat) (ls : Array Slot) (y1188d : Int32) (y1189d : Int32), 0 ≤ y1188d.toInt → y1188d.toInt ≤ 6 → 0 ≤ y1189d.toInt → y1189d.toInt ≤ 6 → y1189d.toInt = (ahd u A0.toNat r1 (y1017d.toInt).toNat (y1188d.toInt).toNat : Int) → y1188d.toInt ≤ (ga u 7 3).toInt → y1189d.toInt ≤ y1188d.toInt → 6 - y1188d.toInt < (n36 : Int) → lv_has ls 7 [(6, .int y1188d), (5, .int y1189d), (4, .int y1017d), (3, .int r1), (0, .ref (A 0)), (1, .int a0), (2, .int a1)] → W p l e (rmL 3 0 0) s m ar below meth c s.heap [] 0 0 Q (F0 m 36 ls []) := by
            intro n36
            induction n36 with
            | zero => intro ls y1188d y1189d ly1188d my1188d ly1189d my1189d x36_0 x36_1 x36_2 hmun36 hl; exfalso; omega
            | succ n36 ih36_1189 =>
              intro ls y1188d y1189d ly1188d my1188d ly1189d my1189d x36_0 x36_1 x36_2 hmun36 hl
              refine lv_iload hx hb dX10_orderOf_36 (lv_at hl 0 rfl) ?_
              refine lv_aload_n hx hb dX10_orderOf_38 rfl (lv_at hl 4 rfl) ?_
              refine cvS (n := 0) (As := []) (rest := [.int y1188d]) ⟨hx, hb, hml, hown, hts⟩ uc_in (kX10_clocks_0 l D C A u hI ) q_m1464 q_n1466 q_p72 q_i11 q_c1467 hvX10_clocks ⟨(Nat.le_of_ble_eq_true rfl), (Nat.le_of_ble_eq_true rfl)⟩ ⟨(Nat.le_of_ble_eq_true rfl), (Nat.le_of_ble_eq_true rfl)⟩ hK hP 10 0 rfl (mwc0 C A u) rfl hl.1 rfl (Nat.le_of_ble_eq_true rfl) dX10_orderOf_39 (fun r1191 p1192 => ?_)
              subst p1192
              refine lv_icmp_ge (tgt := 131) hx hb dX10_orderOf_42 (by decide) (fun c1193 => ?_) (fun c1193 => ?_)
              · have c1193 := cLE (x := (ga u 7 3)) (y := y1188d) (X := ((ga u 7 3)).toInt) (Y := y1188d.toInt) rfl rfl c1193
                refine lv_iload hx hb dX10_orderOf_131 (lv_at hl 1 rfl) ?_
                refine lv_iload_n hx hb dX10_orderOf_133 rfl (lv_at hl 6 rfl) ?_
                refine lv_icmp_ne (tgt := 140) hx hb dX10_orderOf_134 (by decide) (fun c1194 => ?_) (fun c1194 => ?_)
                · have c1194 := cNE (x := y1189d) (y := a1) (X := y1189d.toInt) (Y := A1) rfl ha1 c1194
                  obtain ⟨z1195, ez1195⟩ : ∃ z, z = y1017d + Int32.ofInt 1 := ⟨_, rfl⟩
                  have hz1195 : z1195.toInt = y1017d.toInt + 1 := by rw [ez1195]; exact tt_add rfl (by decide) (by omega) (by omega)
                  refine lv_iinc (v := z1195) (lv' := [(4, .int z1195), (6, .int y1188d), (5, .int y1189d), (3, .int r1), (0, .ref (A 0)), (1, .int a0), (2, .int a1)]) hx hb dX10_orderOf_140 hl (k := 2) rfl ez1195.symm (by decide) rfl (fun ls hl => ?_)
                  refine lv_goto (tgt := 9) hx hb dX10_orderOf_143 (by decide) ?_
                  exact ih9_1017 ls z1195 (by have q9 := (show z1195.toInt = (y1017d.toInt + 1) from hz1195); omega) (by have q9 := (show z1195.toInt = (y1017d.toInt + 1) from hz1195); omega) (by have q9 := (show (z1195 : Int32).toInt = (y1017d.toInt + 1) from hz1195); rw [q9]; exact OR.n x9_0 (by omega) (by have q8 : (ga u 7 3).toInt = y1188d.toInt := (by omega); rw [q8, ← x36_0]; omega)) (by have q9 := (show z1195.toInt = (y1017d.toInt + 1) from hz1195); omega) (lv_sub hl [0, 3, 4, 5, 6] rfl)
                · have c1194 := cEQ (x := y1189d) (y := a1) (X := y1189d.toInt) (Y := A1) rfl ha1 c1194
                  refine lv_iload hx hb dX10_orderOf_137 (lv_at hl 2 rfl) ?_
                  exact hret _ _ y1017d dX10_orderOf_139 rfl ⟨⟨by omega, by omega⟩, Or.inl (by omega)⟩
              · have c1193 := cNLE (x := (ga u 7 3)) (y := y1188d) (X := ((ga u 7 3)).toInt) (Y := y1188d.toInt) rfl rfl c1193
                refine lv_iload hx hb dX10_orderOf_45 (lv_at hl 1 rfl) ?_
                refine lv_iload_n hx hb dX10_orderOf_47 rfl (lv_at hl 3 rfl) ?_
                refine lv_iload hx hb dX10_orderOf_48 (lv_at hl 0 rfl) ?_
                refine csS (n := 2) (As := [.int r1, .int y1188d]) (rest := [.int y1189d]) ⟨hx, hb, hml, hown, hts⟩ uc_in (kX10_isBit_0 l D C A u hI r1 r1.toInt rfl y1188d y1188d.toInt rfl) q_m1489 q_s1490 q_i11 q_c1491 hvX10_isBit ⟨(Nat.le_of_ble_eq_true rfl), (Nat.le_of_ble_eq_true rfl)⟩ ⟨(Nat.le_of_ble_eq_true rfl), (Nat.le_of_ble_eq_true rfl)⟩ hK hP rfl hl.1 rfl (Nat.le_of_ble_eq_true rfl) dX10_orderOf_50 (fun r1196 p1197 => ?_)
                rcases p1197 with ⟨e9, f1198⟩ | ⟨e9, f1198⟩
                · subst e9
                  refine lv_if_eq (tgt := 121) hx hb dX10_orderOf_53 (by decide) (fun c1199 => absurd c1199 (by decide)) (fun c1199 => ?_)
                  refine lv_aload_n hx hb dX10_orderOf_56 rfl (lv_at hl 4 rfl) ?_
                  refine va_get (ci := 10) (v := .ref (A 12)) (C := RX10) (T := TX10) (N := 42) hx hb hts (fun w h => uc_in w (inX10 w h)) hown hK hP 0 (mwc0 C A u) rfl 22 (by decide) (hts _ (uc_in _ q_f1210)) (fun _ h9 => h9) rfl dX10_orderOf_57 ?_
                  refine lv_bipush (v := 6) hx hb dX10_orderOf_60 (by decide) ?_
                  refine lv_iload_n hx hb dX10_orderOf_62 rfl (lv_at hl 5 rfl) ?_
                  refine lv_imul hx hb dX10_orderOf_63 ?_
                  refine p_nm (tt_mul (X := 6) (Y := A0) (by decide) ha0 (by omega) (by omega)) (fun z1200 hz1200 => ?_)
                  refine lv_iload hx hb dX10_orderOf_64 (lv_at hl 0 rfl) ?_
                  refine lv_iadd hx hb dX10_orderOf_66 ?_
                  refine p_nm (tt_add (X := (6 * A0)) (Y := y1188d.toInt) hz1200 rfl (by omega) (by omega)) (fun z1201 hz1201 => ?_)
                  refine va_iald hx hb hK hP 12 1 (mwc12 C A u) rfl (i_ix hz1201 (by omega) (by omega)) dX10_orderOf_67 ?_
                  refine pv_i (v := (ga u 12 (Int32.toNatClampNeg z1201))) rfl ?_
                  refine lv_aload_n hx hb dX10_orderOf_68 rfl (lv_at hl 4 rfl) ?_
                  refine va_get (ci := 10) (v := .ref (A 12)) (C := RX10) (T := TX10) (N := 42) hx hb hts (fun w h => uc_in w (inX10 w h)) hown hK hP 0 (mwc0 C A u) rfl 22 (by decide) (hts _ (uc_in _ q_f1210)) (fun _ h9 => h9) rfl dX10_orderOf_69 ?_
                  refine lv_bipush (v := 6) hx hb dX10_orderOf_72 (by decide) ?_
                  refine lv_iload_n hx hb dX10_orderOf_74 rfl (lv_at hl 5 rfl) ?_
                  refine lv_imul hx hb dX10_orderOf_75 ?_
                  refine p_nm (tt_mul (X := 6) (Y := A0) (by decide) ha0 (by omega) (by omega)) (fun z1202 hz1202 => ?_)
                  refine lv_iload hx hb dX10_orderOf_76 (lv_at hl 2 rfl) ?_
                  refine lv_iadd hx hb dX10_orderOf_78 ?_
                  refine p_nm (tt_add (X := (6 * A0)) (Y := y1017d.toInt) hz1202 rfl (by omega) (by omega)) (fun z1203 hz1203 => ?_)
                  refine va_iald hx hb hK hP 12 1 (mwc12 C A u) rfl (i_ix hz1203 (by omega) (by omega)) dX10_orderOf_79 ?_
                  refine pv_i (v := (ga u 12 (Int32.toNatClampNeg z1203))) rfl ?_
                  refine lv_icmp_lt (tgt := 117) hx hb dX10_orderOf_80 (by decide) (fun c1204 => ?_) (fun c1204 => ?_)
                  · have c1204 := cLT (x := (ga u 12 (Int32.toNatClampNeg z1201))) (y := (ga u 12 (Int32.toNatClampNeg z1203))) (X := ((ga u 12 (Int32.toNatClampNeg z1201))).toInt) (Y := ((ga u 12 (Int32.toNatClampNeg z1203))).toInt) rfl rfl c1204
                    refine lv_iconst (v := 1) hx hb dX10_orderOf_117 (by decide) ?_
                    refine lv_goto (tgt := 122) hx hb dX10_orderOf_118 (by decide) ?_
                    refine lv_iadd hx hb dX10_orderOf_122 ?_
                    refine p_nm (tt_add (X := y1189d.toInt) (Y := 1) rfl (by decide) (by omega) (by omega)) (fun z1205 hz1205 => ?_)
                    refine lv_istore (lv' := [(5, .int z1205), (6, .int y1188d), (4, .int y1017d), (3, .int r1), (0, .ref (A 0)), (1, .int a0), (2, .int a1)]) hx hb dX10_orderOf_123 hl (by decide) rfl (fun ls hl => ?_)
                    obtain ⟨z1206, ez1206⟩ : ∃ z, z = y1188d + Int32.ofInt 1 := ⟨_, rfl⟩
                    have hz1206 : z1206.toInt = y1188d.toInt + 1 := by rw [ez1206]; exact tt_add rfl (by decide) (by omega) (by omega)
                    refine lv_iinc (v := z1206) (lv' := [(6, .int z1206), (5, .int z1205), (4, .int y1017d), (3, .int r1), (0, .ref (A 0)), (1, .int a0), (2, .int a1)]) hx hb dX10_orderOf_125 hl (k := 1) rfl ez1206.symm (by decide) rfl (fun ls hl => ?_)
                    refine lv_goto (tgt := 36) hx hb dX10_orderOf_128 (by decide) ?_
                    exact ih36_1189 ls z1206 z1205 (by have q9 := (show z1206.toInt = (y1188d.toInt + 1) from hz1206); omega) (by have q9 := (show z1206.toInt = (y1188d.toInt + 1) from hz1206); omega) (by have q9 := (show z1205.toInt = (y1189d.toInt + 1) from hz1205); omega) (by have q9 := (show z1205.toInt = (y1189d.toInt + 1) from hz1205); omega) (by have q8 := (show (z1206 : Int32).toInt = (y1188d.toInt + 1) from hz1206); have q7 := (show (z1205 : Int32).toInt = (y1189d.toInt + 1) from hz1205); rw [q8, q7]; have q6 : ltr u A0.toNat (y1188d.toInt).toNat (y1017d.toInt).toNat = true := (ltr_e (D := A0) (Q := y1188d.toInt) (C := y1017d.toInt) hz1201 hz1203 (by omega) (by omega) (by omega) (by omega) (by omega)).trans (decide_eq_true (by omega)); exact ahd_1 x36_0 (by omega) (by rw [q6, bt_t rfl (by omega) f1198]; rfl)) (by have q7 : 0 ≤ (ga u 7 3).toInt := (hI.has 3).1; have r6 := (show (z1206 : Int32).toInt = (y1188d.toInt + 1) from hz1206); omega) (by have r5 := (show (z1205 : Int32).toInt = (y1189d.toInt + 1) from hz1205); have r6 := (show (z1206 : Int32).toInt = (y1188d.toInt + 1) from hz1206); omega) (by have q9 := (show z1206.toInt = (y1188d.toInt + 1) from hz1206); omega) hl
                  · have c1204 := cNLT (x := (ga u 12 (Int32.toNatClampNeg z1201))) (y := (ga u 12 (Int32.toNatClampNeg z1203))) (X := ((ga u 12 (Int32.toNatClampNeg z1201))).toInt) (Y := ((ga u 12 (Int32.toNatClampNeg z1203))).toInt) rfl rfl c1204
                    refine lv_aload_n hx hb dX10_orderOf_83 rfl (lv_at hl 4 rfl) ?_
                    refine va_get (ci := 10) (v := .ref (A 12)) (C := RX10) (T := TX10) (N := 42) hx hb hts (fun w h => uc_in w (inX10 w h)) hown hK hP 0 (mwc0 C A u) rfl 22 (by decide) (hts _ (uc_in _ q_f1210)) (fun _ h9 => h9) rfl dX10_orderOf_84 ?_
                    refine lv_bipush (v := 6) hx hb dX10_orderOf_87 (by decide) ?_
                    refine lv_iload_n hx hb dX10_orderOf_89 rfl (lv_at hl 5 rfl) ?_
                    refine lv_imul hx hb dX10_orderOf_90 ?_
                    refine p_nm (tt_mul (X := 6) (Y := A0) (by decide) ha0 (by omega) (by omega)) (fun z1207 hz1207 => ?_)
                    refine lv_iload hx hb dX10_orderOf_91 (lv_at hl 0 rfl) ?_
                    refine lv_iadd hx hb dX10_orderOf_93 ?_
                    refine p_nm (tt_add (X := (6 * A0)) (Y := y1188d.toInt) hz1207 rfl (by omega) (by omega)) (fun z1208 hz1208 => ?_)
                    refine va_iald hx hb hK hP 12 1 (mwc12 C A u) rfl (i_ix hz1208 (by omega) (by omega)) dX10_orderOf_94 ?_
                    refine pv_i (v := (ga u 12 (Int32.toNatClampNeg z1201))) (by rw [i_lit (x := z1208) (y := z1201) hz1208 hz1201]) ?_
                    refine lv_aload_n hx hb dX10_orderOf_95 rfl (lv_at hl 4 rfl) ?_
                    refine va_get (ci := 10) (v := .ref (A 12)) (C := RX10) (T := TX10) (N := 42) hx hb hts (fun w h => uc_in w (inX10 w h)) hown hK hP 0 (mwc0 C A u) rfl 22 (by decide) (hts _ (uc_in _ q_f1210)) (fun _ h9 => h9) rfl dX10_orderOf_96 ?_
                    refine lv_bipush (v := 6) hx hb dX10_orderOf_99 (by decide) ?_
                    refine lv_iload_n hx hb dX10_orderOf_101 rfl (lv_at hl 5 rfl) ?_
                    refine lv_imul hx hb dX10_orderOf_102 ?_
                    refine p_nm (tt_mul (X := 6) (Y := A0) (by decide) ha0 (by omega) (by omega)) (fun z1209 hz1209 => ?_)
                    refine lv_iload hx hb dX10_orderOf_103 (lv_at hl 2 rfl) ?_
                    refine lv_iadd hx hb dX10_orderOf_105 ?_
                    refine p_nm (tt_add (X := (6 * A0)) (Y := y1017d.toInt) hz1209 rfl (by omega) (by omega)) (fun z1210 hz1210 => ?_)
                    refine va_iald hx hb hK hP 12 1 (mwc12 C A u) rfl (i_ix hz1210 (by omega) (by omega)) dX10_orderOf_106 ?_
                    refine pv_i (v := (ga u 12 (Int32.toNatClampNeg z1203))) (by rw [i_lit (x := z1210) (y := z1203) hz1210 hz1203]) ?_
                    refine lv_icmp_ne (tgt := 121) hx hb dX10_orderOf_107 (by decide) (fun c1211 => ?_) (fun c1211 => ?_)
                    · have c1211 := cNE (x := (ga u 12 (Int32.toNatClampNeg z1201))) (y := (ga u 12 (Int32.toNatClampNeg z1203))) (X := ((ga u 12 (Int32.toNatClampNeg z1201))).toInt) (Y := ((ga u 12 (Int32.toNatClampNeg z1203))).toInt) rfl rfl c1211
                      refine lv_iconst (v := 0) hx hb dX10_orderOf_121 (by decide) ?_
                      refine lv_iadd hx hb dX10_orderOf_122 ?_
                      refine p_nm (tt_add (X := y1189d.toInt) (Y := 0) rfl (by decide) (by omega) (by omega)) (fun z1212 hz1212 => ?_)
                      refine lv_istore (lv' := [(5, .int z1212), (6, .int y1188d), (4, .int y1017d), (3, .int r1), (0, .ref (A 0)), (1, .int a0), (2, .int a1)]) hx hb dX10_orderOf_123 hl (by decide) rfl (fun ls hl => ?_)
                      obtain ⟨z1213, ez1213⟩ : ∃ z, z = y1188d + Int32.ofInt 1 := ⟨_, rfl⟩
                      have hz1213 : z1213.toInt = y1188d.toInt + 1 := by rw [ez1213]; exact tt_add rfl (by decide) (by omega) (by omega)
                      refine lv_iinc (v := z1213) (lv' := [(6, .int z1213), (5, .int z1212), (4, .int y1017d), (3, .int r1), (0, .ref (A 0)), (1, .int a0), (2, .int a1)]) hx hb dX10_orderOf_125 hl (k := 1) rfl ez1213.symm (by decide) rfl (fun ls hl => ?_)
                      refine lv_goto (tgt := 36) hx hb dX10_orderOf_128 (by decide) ?_
                      exact ih36_1189 ls z1213 z1212 (by have q9 := (show z1213.toInt = (y1188d.toInt + 1) from hz1213); omega) (by have q9 := (show z1213.toInt = (y1188d.toInt + 1) from hz1213); omega) (by have q9 := (show z1212.toInt = (y1189d.toInt + 0) from hz1212); omega) (by have q9 := (show z1212.toInt = (y1189d.toInt + 0) from hz1212); omega) (by have q8 := (show (z1213 : Int32).toInt = (y1188d.toInt + 1) from hz1213); have q7 := (show (z1212 : Int32).toInt = (y1189d.toInt + 0) from hz1212); rw [q8, q7, Int.add_zero]; have q6 : ltr u A0.toNat (y1188d.toInt).toNat (y1017d.toInt).toNat = false := (ltr_e (D := A0) (Q := y1188d.toInt) (C := y1017d.toInt) hz1201 hz1203 (by omega) (by omega) (by omega) (by omega) (by omega)).trans (decide_eq_false (by omega)); exact ahd_0 x36_0 (by omega) (by rw [q6]; rfl)) (by have q7 : 0 ≤ (ga u 7 3).toInt := (hI.has 3).1; have r6 := (show (z1213 : Int32).toInt = (y1188d.toInt + 1) from hz1213); omega) (by have r5 := (show (z1212 : Int32).toInt = (y1189d.toInt + 0) from hz1212); have r6 := (show (z1213 : Int32).toInt = (y1188d.toInt + 1) from hz1213); omega) (by have q9 := (show z1213.toInt = (y1188d.toInt + 1) from hz1213); omega) hl
                    · have c1211 := cEQ (x := (ga u 12 (Int32.toNatClampNeg z1201))) (y := (ga u 12 (Int32.toNatClampNeg z1203))) (X := ((ga u 12 (Int32.toNatClampNeg z1201))).toInt) (Y := ((ga u 12 (Int32.toNatClampNeg z1203))).toInt) rfl rfl c1211
                      refine lv_iload hx hb dX10_orderOf_110 (lv_at hl 0 rfl) ?_
                      refine lv_iload hx hb dX10_orderOf_112 (lv_at hl 2 rfl) ?_
                      refine lv_icmp_ge (tgt := 121) hx hb dX10_orderOf_114 (by decide) (fun c1214 => ?_) (fun c1214 => ?_)
                      · have c1214 := cLE (x := y1017d) (y := y1188d) (X := y1017d.toInt) (Y := y1188d.toInt) rfl rfl c1214
                        refine lv_iconst (v := 0) hx hb dX10_orderOf_121 (by decide) ?_
                        refine lv_iadd hx hb dX10_orderOf_122 ?_
                        refine p_nm (tt_add (X := y1189d.toInt) (Y := 0) rfl (by decide) (by omega) (by omega)) (fun z1215 hz1215 => ?_)
                        refine lv_istore (lv' := [(5, .int z1215), (6, .int y1188d), (4, .int y1017d), (3, .int r1), (0, .ref (A 0)), (1, .int a0), (2, .int a1)]) hx hb dX10_orderOf_123 hl (by decide) rfl (fun ls hl => ?_)
                        obtain ⟨z1216, ez1216⟩ : ∃ z, z = y1188d + Int32.ofInt 1 := ⟨_, rfl⟩
                        have hz1216 : z1216.toInt = y1188d.toInt + 1 := by rw [ez1216]; exact tt_add rfl (by decide) (by omega) (by omega)
                        refine lv_iinc (v := z1216) (lv' := [(6, .int z1216), (5, .int z1215), (4, .int y1017d), (3, .int r1), (0, .ref (A 0)), (1, .int a0), (2, .int a1)]) hx hb dX10_orderOf_125 hl (k := 1) rfl ez1216.symm (by decide) rfl (fun ls hl => ?_)
                        refine lv_goto (tgt := 36) hx hb dX10_orderOf_128 (by decide) ?_
                        exact ih36_1189 ls z1216 z1215 (by have q9 := (show z1216.toInt = (y1188d.toInt + 1) from hz1216); omega) (by have q9 := (show z1216.toInt = (y1188d.toInt + 1) from hz1216); omega) (by have q9 := (show z1215.toInt = (y1189d.toInt + 0) from hz1215); omega) (by have q9 := (show z1215.toInt = (y1189d.toInt + 0) from hz1215); omega) (by have q8 := (show (z1216 : Int32).toInt = (y1188d.toInt + 1) from hz1216); have q7 := (show (z1215 : Int32).toInt = (y1189d.toInt + 0) from hz1215); rw [q8, q7, Int.add_zero]; have q6 : ltr u A0.toNat (y1188d.toInt).toNat (y1017d.toInt).toNat = false := (ltr_e (D := A0) (Q := y1188d.toInt) (C := y1017d.toInt) hz1201 hz1203 (by omega) (by omega) (by omega) (by omega) (by omega)).trans (decide_eq_false (by omega)); exact ahd_0 x36_0 (by omega) (by rw [q6]; rfl)) (by have q7 : 0 ≤ (ga u 7 3).toInt := (hI.has 3).1; have r6 := (show (z1216 : Int32).toInt = (y1188d.toInt + 1) from hz1216); omega) (by have r5 := (show (z1215 : Int32).toInt = (y1189d.toInt + 0) from hz1215); have r6 := (show (z1216 : Int32).toInt = (y1188d.toInt + 1) from hz1216); omega) (by have q9 := (show z1216.toInt = (y1188d.toInt + 1) from hz1216); omega) hl
                      · have c1214 := cNLE (x := y1017d) (y := y1188d) (X := y1017d.toInt) (Y := y1188d.toInt) rfl rfl c1214
                        refine lv_iconst (v := 1) hx hb dX10_orderOf_117 (by decide) ?_
                        refine lv_goto (tgt := 122) hx hb dX10_orderOf_118 (by decide) ?_
                        refine lv_iadd hx hb dX10_orderOf_122 ?_
                        refine p_nm (tt_add (X := y1189d.toInt) (Y := 1) rfl (by decide) (by omega) (by omega)) (fun z1217 hz1217 => ?_)
                        refine lv_istore (lv' := [(5, .int z1217), (6, .int y1188d), (4, .int y1017d), (3, .int r1), (0, .ref (A 0)), (1, .int a0), (2, .int a1)]) hx hb dX10_orderOf_123 hl (by decide) rfl (fun ls hl => ?_)
                        obtain ⟨z1218, ez1218⟩ : ∃ z, z = y1188d + Int32.ofInt 1 := ⟨_, rfl⟩
                        have hz1218 : z1218.toInt = y1188d.toInt + 1 := by rw [ez1218]; exact tt_add rfl (by decide) (by omega) (by omega)
                        refine lv_iinc (v := z1218) (lv' := [(6, .int z1218), (5, .int z1217), (4, .int y1017d), (3, .int r1), (0, .ref (A 0)), (1, .int a0), (2, .int a1)]) hx hb dX10_orderOf_125 hl (k := 1) rfl ez1218.symm (by decide) rfl (fun ls hl => ?_)
                        refine lv_goto (tgt := 36) hx hb dX10_orderOf_128 (by decide) ?_
                        exact ih36_1189 ls z1218 z1217 (by have q9 := (show z1218.toInt = (y1188d.toInt + 1) from hz1218); omega) (by have q9 := (show z1218.toInt = (y1188d.toInt + 1) from hz1218); omega) (by have q9 := (show z1217.toInt = (y1189d.toInt + 1) from hz1217); omega) (by have q9 := (show z1217.toInt = (y1189d.toInt + 1) from hz1217); omega) (by have q8 := (show (z1218 : Int32).toInt = (y1188d.toInt + 1) from hz1218); have q7 := (show (z1217 : Int32).toInt = (y1189d.toInt + 1) from hz1217); rw [q8, q7]; have q6 : ltr u A0.toNat (y1188d.toInt).toNat (y1017d.toInt).toNat = true := (ltr_e (D := A0) (Q := y1188d.toInt) (C := y1017d.toInt) hz1201 hz1203 (by omega) (by omega) (by omega) (by omega) (by omega)).trans (decide_eq_true (by omega)); exact ahd_1 x36_0 (by omega) (by rw [q6, bt_t rfl (by omega) f1198]; rfl)) (by have q7 : 0 ≤ (ga u 7 3).toInt := (hI.has 3).1; have r6 := (show (z1218 : Int32).toInt = (y1188d.toInt + 1) from hz1218); omega) (by have r5 := (show (z1217 : Int32).toInt = (y1189d.toInt + 1) from hz1217); have r6 := (show (z1218 : Int32).toInt = (y1188d.toInt + 1) from hz1218); omega) (by have q9 := (show z1218.toInt = (y1188d.toInt + 1) from hz1218); omega) hl
                · subst e9
                  refine lv_if_eq (tgt := 121) hx hb dX10_orderOf_53 (by decide) (fun c1219 => ?_) (fun c1219 => absurd c1219 (by decide))
                  refine lv_iconst (v := 0) hx hb dX10_orderOf_121 (by decide) ?_
                  refine lv_iadd hx hb dX10_orderOf_122 ?_
                  refine p_nm (tt_add (X := y1189d.toInt) (Y := 0) rfl (by decide) (by omega) (by omega)) (fun z1220 hz1220 => ?_)
                  refine lv_istore (lv' := [(5, .int z1220), (6, .int y1188d), (4, .int y1017d), (3, .int r1), (0, .ref (A 0)), (1, .int a0), (2, .int a1)]) hx hb dX10_orderOf_123 hl (by decide) rfl (fun ls hl => ?_)
                  obtain ⟨z1221, ez1221⟩ : ∃ z, z = y1188d + Int32.ofInt 1 := ⟨_, rfl⟩
                  have hz1221 : z1221.toInt = y1188d.toInt + 1 := by rw [ez1221]; exact tt_add rfl (by decide) (by omega) (by omega)
                  refine lv_iinc (v := z1221) (lv' := [(6, .int z1221), (5, .int z1220), (4, .int y1017d), (3, .int r1), (0, .ref (A 0)), (1, .int a0), (2, .int a1)]) hx hb dX10_orderOf_125 hl (k := 1) rfl ez1221.symm (by decide) rfl (fun ls hl => ?_)
                  refine lv_goto (tgt := 36) hx hb dX10_orderOf_128 (by decide) ?_
                  exact ih36_1189 ls z1221 z1220 (by have q9 := (show z1221.toInt = (y1188d.toInt + 1) from hz1221); omega) (by have q9 := (show z1221.toInt = (y1188d.toInt + 1) from hz1221); omega) (by have q9 := (show z1220.toInt = (y1189d.toInt + 0) from hz1220); omega) (by have q9 := (show z1220.toInt = (y1189d.toInt + 0) from hz1220); omega) (by have q8 := (show (z1221 : Int32).toInt = (y1188d.toInt + 1) from hz1221); have q7 := (show (z1220 : Int32).toInt = (y1189d.toInt + 0) from hz1220); rw [q8, q7, Int.add_zero]; exact ahd_0 x36_0 (by omega) (by rw [bt_f rfl (by omega) f1198]; exact Bool.and_false _)) (by have q7 : 0 ≤ (ga u 7 3).toInt := (hI.has 3).1; have r6 := (show (z1221 : Int32).toInt = (y1188d.toInt + 1) from hz1221); omega) (by have r5 := (show (z1220 : Int32).toInt = (y1189d.toInt + 0) from hz1220); have r6 := (show (z1221 : Int32).toInt = (y1188d.toInt + 1) from hz1221); omega) (by have q9 := (show z1221.toInt = (y1188d.toInt + 1) from hz1221); omega) hl
          exact lp36_1189 7 ls 0 0 (by decide) (by decide) (by decide) (by decide) (by have q8 : (0 : Int32).toInt = 0 := (by decide); rw [q8]; rfl) (by have q7 : 0 ≤ (ga u 7 3).toInt := (hI.has 3).1; have r6 := (show (0 : Int32).toInt = 0 from (by decide)); omega) (by have r5 := (show (0 : Int32).toInt = 0 from (by decide)); have r6 := (show (0 : Int32).toInt = 0 from (by decide)); omega) (by have q9 : (0 : Int32).toInt = 0 := (by decide); omega) hl
        · subst e9
          refine lv_if_ne (tgt := 30) hx hb dX10_orderOf_24 (by decide) (fun c1222 => absurd c1222 (by decide)) (fun c1222 => ?_)
          refine lv_goto (tgt := 140) hx hb dX10_orderOf_27 (by decide) ?_
          obtain ⟨z1223, ez1223⟩ : ∃ z, z = y1017d + Int32.ofInt 1 := ⟨_, rfl⟩
          have hz1223 : z1223.toInt = y1017d.toInt + 1 := by rw [ez1223]; exact tt_add rfl (by decide) (by omega) (by omega)
          refine lv_iinc (v := z1223) (lv' := [(4, .int z1223), (3, .int r1), (0, .ref (A 0)), (1, .int a0), (2, .int a1)]) hx hb dX10_orderOf_140 hl (k := 0) rfl ez1223.symm (by decide) rfl (fun ls hl => ?_)
          refine lv_goto (tgt := 9) hx hb dX10_orderOf_143 (by decide) ?_
          exact ih9_1017 ls z1223 (by have q9 := (show z1223.toInt = (y1017d.toInt + 1) from hz1223); omega) (by have q9 := (show z1223.toInt = (y1017d.toInt + 1) from hz1223); omega) (by have q9 := (show (z1223 : Int32).toInt = (y1017d.toInt + 1) from hz1223); rw [q9]; exact OR.f x9_0 (by omega) (bt_f rfl (by omega) f1025)) (by have q9 := (show z1223.toInt = (y1017d.toInt + 1) from hz1223); omega) hl
  exact lp9_1017 7 ls 0 (by decide) (by decide) OR.z (by have q9 : (0 : Int32).toInt = 0 := (by decide); omega) hl
set_option maxHeartbeats 4000000 in
set_option maxRecDepth 100000 in
theorem kX10_quorumOf_0 (l : Launch) (D : va_G) (C : Nat → ClassId) (A : Nat → Nat) (u : St) (hI : IM u) (a0 : Int32) (A0 : Int) (ha0 : a0.toInt = A0) (a1 : Int32) (A1 : Int) (ha1 : a1.toInt = A1) (hl0 : 0 ≤ A0) (hm0 : A0 ≤ 6) : Met l yX10_quorumOf (uc yX10_quorumOf cX10_quorumOf 4 (some .int)) (rmL 4 0 0) (va_Pc [.ref (A 0), .int a0, .int a1] (PreR D (tyl C) (mw C A u))) (vp_Si (fun r => True)) 0 0 (fun _ => False) := by
  refine mS (by decide) (Nat.le_of_ble_eq_true rfl) ?_
  intro p e s m below meth c ls ar Q hx hb hml hown hts hK hP hl hret
  have hown : s.vm.findClass RX10 = some m.cls := hown
  have hl : lv_has ls 4 [(0, .ref (A 0)), (1, .int a0), (2, .int a1)] := hl
  refine lv_aload_n hx hb dX10_quorumOf_0 rfl (lv_at hl 0 rfl) ?_
  refine lv_iload_n hx hb dX10_quorumOf_1 rfl (lv_at hl 1 rfl) ?_
  refine lv_iload_n hx hb dX10_quorumOf_2 rfl (lv_at hl 2 rfl) ?_
  refine lv_iconst (v := 1) hx hb dX10_quorumOf_3 (by decide) ?_
  refine lv_isub hx hb dX10_quorumOf_4 ?_
  refine p_any (fun z1 => ?_)
  refine cvS (n := 2) (As := [.int a0, .int z1]) (rest := []) ⟨hx, hb, hml, hown, hts⟩ uc_in (kX10_orderOf_0 l D C A u hI a0 A0 ha0 z1 z1.toInt rfl (by omega) (by omega)) q_m1524 q_n1526 q_p81 q_i11 q_c1527 hvX10_orderOf ⟨(Nat.le_of_ble_eq_true rfl), (Nat.le_of_ble_eq_true rfl)⟩ ⟨(Nat.le_of_ble_eq_true rfl), (Nat.le_of_ble_eq_true rfl)⟩ hK hP 10 0 rfl (mwc0 C A u) rfl hl.1 rfl (Nat.le_of_ble_eq_true rfl) dX10_quorumOf_5 (fun r2 p3 => ?_)
  have br2 := p3.1
  refine lv_istore_n (lv' := [(3, .int r2), (0, .ref (A 0)), (1, .int a0), (2, .int a1)]) hx hb dX10_quorumOf_8 rfl hl (by decide) rfl (fun ls hl => ?_)
  refine lv_iload_n hx hb dX10_quorumOf_9 rfl (lv_at hl 0 rfl) ?_
  refine lv_iconst (v := (-1)) hx hb dX10_quorumOf_10 (by decide) ?_
  refine lv_icmp_ne (tgt := 20) hx hb dX10_quorumOf_11 (by decide) (fun c4 => ?_) (fun c4 => ?_)
  · have c4 := cNE (x := r2) (y := (-1)) (X := r2.toInt) (Y := (-1)) rfl (by decide) c4
    refine lv_aload_n hx hb dX10_quorumOf_20 rfl (lv_at hl 1 rfl) ?_
    refine va_get (ci := 10) (v := .ref (A 12)) (C := RX10) (T := TX10) (N := 42) hx hb hts (fun w h => uc_in w (inX10 w h)) hown hK hP 0 (mwc0 C A u) rfl 22 (by decide) (hts _ (uc_in _ q_f1210)) (fun _ h9 => h9) rfl dX10_quorumOf_21 ?_
    refine lv_bipush (v := 6) hx hb dX10_quorumOf_24 (by decide) ?_
    refine lv_iload_n hx hb dX10_quorumOf_26 rfl (lv_at hl 2 rfl) ?_
    refine lv_imul hx hb dX10_quorumOf_27 ?_
    refine p_nm (tt_mul (X := 6) (Y := A0) (by decide) ha0 (by omega) (by omega)) (fun z5 hz5 => ?_)
    refine lv_iload_n hx hb dX10_quorumOf_28 rfl (lv_at hl 0 rfl) ?_
    refine lv_iadd hx hb dX10_quorumOf_29 ?_
    refine p_nm (tt_add (X := (6 * A0)) (Y := r2.toInt) hz5 rfl (by omega) (by omega)) (fun z6 hz6 => ?_)
    refine va_iald hx hb hK hP 12 1 (mwc12 C A u) rfl (i_ix hz6 (by omega) (by omega)) dX10_quorumOf_30 ?_
    refine p_any (fun z7 => ?_)
    exact hret _ _ z7 dX10_quorumOf_31 rfl trivial
  · have c4 := cEQ (x := r2) (y := (-1)) (X := r2.toInt) (Y := (-1)) rfl (by decide) c4
    refine lv_sipush (v := 10000) hx hb dX10_quorumOf_14 (by decide) ?_
    refine lv_goto (tgt := 31) hx hb dX10_quorumOf_17 (by decide) ?_
    exact hret _ _ (10000 : Int32) dX10_quorumOf_31 rfl trivial
set_option maxHeartbeats 4000000 in
set_option maxRecDepth 100000 in
theorem kX10_law_0 (l : Launch) (D : va_G) (C : Nat → ClassId) (A : Nat → Nat) (u : St) (hI : IM u) (a0 : Int32) (A0 : Int) (ha0 : a0.toInt = A0) (sz : Nat) : MetI l yX10_law cX10_law 5 (some .int) 5 [.ref (A 0), .int a0] D (tyl C) (mw C A) X0 u sz (fun r u' => IM u' ∧ Un [(0, 0), (24, 24), (25, 25)] [(12, 12), (13, 13)] [] u u' ∧ ((-2) ≤ r.toInt ∧ r.toInt ≤ 6)) := by
  refine mI (by decide) (Nat.le_of_ble_eq_true rfl) ?_
  intro p e s m below meth c ls ar Q hx hb hml hown hts hK hH hX hl hret
  have hown : s.vm.findClass RX10 = some m.cls := hown
  have hl : lv_has ls 5 [(0, .ref (A 0)), (1, .int a0)] := hl
  refine lv_aload_n hx hb dX10_law_0 rfl (lv_at hl 0 rfl) ?_
  refine lv_iconst (v := 0) hx hb dX10_law_1 (by decide) ?_
  refine r_put (j := 0) (ci := 10) (C := RX10) (T := TX10) (N := 42) hx hb hts (fun w h => uc_in w (inX10 w h)) tyX10 tyX10_ok nmX10 hown hK hH 0 (mwc0 C A u) rfl 0 (by decide) (hts _ (uc_in _ q_f1188)) (fun _ h9 => h9) rfl (by decide +kernel) (Nat.le_of_ble_eq_true rfl) (mws0 C A u _) dX10_law_2 (fun u1 eu1 H locs hH => ?_)
  have hI := hI.pi0 eu1 rfl
  refine lv_aload_n hx hb dX10_law_5 rfl (lv_at hl 0 rfl) ?_
  refine lv_iload_n hx hb dX10_law_6 rfl (lv_at hl 1 rfl) ?_
  refine cvS (n := 1) (As := [.int a0]) (rest := []) ⟨hx, hb, hml, hown, hts⟩ uc_in (kX10_isLong_0 l D C A u1 hI a0 A0 ha0) q_m1630 q_n1632 q_p90 q_i11 q_c1633 hvX10_isLong ⟨(Nat.le_of_ble_eq_true rfl), (Nat.le_of_ble_eq_true rfl)⟩ ⟨(Nat.le_of_ble_eq_true rfl), (Nat.le_of_ble_eq_true rfl)⟩ hK hH.1 10 0 rfl (mwc0 C A u1) rfl hl.1 rfl (Nat.le_of_ble_eq_true rfl) dX10_law_7 (fun r2 p3 => ?_)
  have p3 : 0 ≤ r2.toInt ∧ r2.toInt ≤ 1 := p3
  refine lv_if_ne (tgt := 16) hx hb dX10_law_10 (by decide) (fun c4 => ?_) (fun c4 => ?_)
  · have c4 := cNE (x := r2) (y := 0) (X := r2.toInt) (Y := 0) rfl (by decide) c4
    refine lv_aload_n hx hb dX10_law_16 rfl (lv_at hl 0 rfl) ?_
    refine cvU (n := 0) (As := []) (rest := []) ⟨hx, hb, hml, hown, hts⟩ uc_in (kX10_lays_0 l D C A u1 hI  _) q_m1481 q_n1483 q_p75 q_i11 q_c1484 hvX10_lays ⟨(Nat.le_of_ble_eq_true rfl), (Nat.le_of_ble_eq_true rfl)⟩ ⟨(Nat.le_of_ble_eq_true rfl), (Nat.le_of_ble_eq_true rfl)⟩ hK hH (fun q h => Or.inr h) Bl0 (fun _ _ _ => trivial) 10 0 rfl (mwc0 C A u1) rfl hl.1 rfl (Nat.le_of_ble_eq_true rfl) dX10_law_17 (fun u5 H locs p7 hH => ?_)
    obtain ⟨hI, hUu5, p7⟩ := p7
    refine lv_bipush (v := 6) hx hb dX10_law_20 (by decide) ?_
    refine lv_istore_n (lv' := [(2, .int 6), (0, .ref (A 0)), (1, .int a0)]) hx hb dX10_law_22 rfl hl (by decide) rfl (fun ls hl => ?_)
    have lp23_465 : ∀ (n23 : Nat) (ls : Array Slot) (y465d : Int32), 0 ≤ y465d.toInt → y465d.toInt ≤ 6 → y465d.toInt - 0 < (n23 : Int) → lv_has ls 5 [(2, .int y465d), (0, .ref (A 0)), (1, .int a0)] → W p l e (rmL 5 0 0) s m ar below meth c H locs 0 0 Q (F0 m 23 ls []) := by
      intro n23
      induction n23 with
      | zero => intro ls y465d ly465d my465d hmun23 hl; exfalso; omega
      | succ n23 ih23_465 =>
        intro ls y465d ly465d my465d hmun23 hl
        refine lv_iload_n hx hb dX10_law_23 rfl (lv_at hl 0 rfl) ?_
        refine lv_if_le (tgt := 78) hx hb dX10_law_24 (by decide) (fun c467 => ?_) (fun c467 => ?_)
        · have c467 := cLE (x := y465d) (y := 0) (X := y465d.toInt) (Y := 0) rfl (by decide) c467
          refine lv_iconst (v := 0) hx hb dX10_law_78 (by decide) ?_
          exact hret _ _ _ _ (0 : Int32) _ dX10_law_79 rfl ⟨hI, (Un.tr (Un.si Un.rf rfl eu1) hUu5 rfl rfl rfl), ⟨by decide, by decide⟩⟩ hH
        · have c467 := cNLE (x := y465d) (y := 0) (X := y465d.toInt) (Y := 0) rfl (by decide) c467
          refine lv_iconst (v := 1) hx hb dX10_law_27 (by decide) ?_
          refine lv_istore_n (lv' := [(3, .int 1), (2, .int y465d), (0, .ref (A 0)), (1, .int a0)]) hx hb dX10_law_28 rfl hl (by decide) rfl (fun ls hl => ?_)
          refine lv_iconst (v := 0) hx hb dX10_law_29 (by decide) ?_
          refine lv_istore (lv' := [(4, .int 0), (3, .int 1), (2, .int y465d), (0, .ref (A 0)), (1, .int a0)]) hx hb dX10_law_30 hl (by decide) rfl (fun ls hl => ?_)
          have lp32_567 : ∀ (n32 : Nat) (ls : Array Slot) (y566d : Int32) (y567d : Int32), 0 ≤ y566d.toInt → y566d.toInt ≤ 7 → 0 ≤ y567d.toInt → y567d.toInt ≤ 1 → 7 - y566d.toInt < (n32 : Int) → lv_has ls 5 [(4, .int y566d), (3, .int y567d), (2, .int y465d), (0, .ref (A 0)), (1, .int a0)] → W p l e (rmL 5 0 0) s m ar below meth c H locs 0 0 Q (F0 m 32 ls []) := by
            intro n32
            induction n32 with
            | zero => intro ls y566d y567d ly566d my566d ly567d my567d hmun32 hl; exfalso; omega
            | succ n32 ih32_567 =>
              intro ls y566d y567d ly566d my566d ly567d my567d hmun32 hl
              refine lv_iload hx hb dX10_law_32 (lv_at hl 0 rfl) ?_
              refine lv_aload_n hx hb dX10_law_34 rfl (lv_at hl 3 rfl) ?_
              refine cvS (n := 0) (As := []) (rest := [.int y566d]) ⟨hx, hb, hml, hown, hts⟩ uc_in (kX10_days_0 l D C A u5 hI ) q_m1477 q_n1479 q_p74 q_i11 q_c1480 hvX10_days ⟨(Nat.le_of_ble_eq_true rfl), (Nat.le_of_ble_eq_true rfl)⟩ ⟨(Nat.le_of_ble_eq_true rfl), (Nat.le_of_ble_eq_true rfl)⟩ hK hH.1 10 0 rfl (mwc0 C A u5) rfl hl.1 rfl (Nat.le_of_ble_eq_true rfl) dX10_law_35 (fun r569 p570 => ?_)
              subst p570
              have b571 : 0 ≤ ((ga u5 7 0)).toInt ∧ ((ga u5 7 0)).toInt ≤ 7 := hI.has 0
              refine lv_icmp_ge (tgt := 66) hx hb dX10_law_38 (by decide) (fun c572 => ?_) (fun c572 => ?_)
              · have c572 := cLE (x := (ga u5 7 0)) (y := y566d) (X := ((ga u5 7 0)).toInt) (Y := y566d.toInt) rfl rfl c572
                refine lv_iload_n hx hb dX10_law_66 rfl (lv_at hl 1 rfl) ?_
                refine lv_if_eq (tgt := 72) hx hb dX10_law_67 (by decide) (fun c573 => ?_) (fun c573 => ?_)
                · have c573 := cEQ (x := y567d) (y := 0) (X := y567d.toInt) (Y := 0) rfl (by decide) c573
                  obtain ⟨z574, ez574⟩ : ∃ z, z = y465d + Int32.ofInt (-1) := ⟨_, rfl⟩
                  have hz574 : z574.toInt = y465d.toInt + (-1) := by rw [ez574]; exact tt_add rfl (by decide) (by omega) (by omega)
                  refine lv_iinc (v := z574) (lv' := [(2, .int z574), (4, .int y566d), (3, .int y567d), (0, .ref (A 0)), (1, .int a0)]) hx hb dX10_law_72 hl (k := 2) rfl ez574.symm (by decide) rfl (fun ls hl => ?_)
                  refine lv_goto (tgt := 23) hx hb dX10_law_75 (by decide) ?_
                  exact ih23_465 ls z574 (by have q9 := (show z574.toInt = (y465d.toInt + (-1)) from hz574); omega) (by have q9 := (show z574.toInt = (y465d.toInt + (-1)) from hz574); omega) (by have q9 := (show z574.toInt = (y465d.toInt + (-1)) from hz574); omega) (lv_sub hl [0, 3, 4] rfl)
                · have c573 := cNE (x := y567d) (y := 0) (X := y567d.toInt) (Y := 0) rfl (by decide) c573
                  refine lv_iload_n hx hb dX10_law_70 rfl (lv_at hl 2 rfl) ?_
                  exact hret _ _ _ _ y465d _ dX10_law_71 rfl ⟨hI, (Un.tr (Un.si Un.rf rfl eu1) hUu5 rfl rfl rfl), ⟨by omega, by omega⟩⟩ hH
              · have c572 := cNLE (x := (ga u5 7 0)) (y := y566d) (X := ((ga u5 7 0)).toInt) (Y := y566d.toInt) rfl rfl c572
                refine lv_iload_n hx hb dX10_law_41 rfl (lv_at hl 1 rfl) ?_
                refine lv_aload_n hx hb dX10_law_42 rfl (lv_at hl 3 rfl) ?_
                refine lv_iload hx hb dX10_law_43 (lv_at hl 0 rfl) ?_
                refine lv_iload_n hx hb dX10_law_45 rfl (lv_at hl 2 rfl) ?_
                refine cvS (n := 2) (As := [.int y566d, .int y465d]) (rest := [.int y567d]) ⟨hx, hb, hml, hown, hts⟩ uc_in (kX10_quorumOf_0 l D C A u5 hI y566d y566d.toInt rfl y465d y465d.toInt rfl (by omega) (by omega)) q_m1744 q_n1746 q_p99 q_i11 q_c1747 hvX10_quorumOf ⟨(Nat.le_of_ble_eq_true rfl), (Nat.le_of_ble_eq_true rfl)⟩ ⟨(Nat.le_of_ble_eq_true rfl), (Nat.le_of_ble_eq_true rfl)⟩ hK hH.1 10 0 rfl (mwc0 C A u5) rfl hl.1 rfl (Nat.le_of_ble_eq_true rfl) dX10_law_46 (fun r575 p576 => ?_)
                refine lv_iload_n hx hb dX10_law_49 rfl (lv_at hl 4 rfl) ?_
                have j58_582 : ∀ (ls : Array Slot) (y578d : Int32), 0 ≤ y578d.toInt → y578d.toInt ≤ 1 → lv_has ls 5 [(4, .int y566d), (2, .int y465d), (0, .ref (A 0)), (1, .int a0)] → W p l e (rmL 5 0 0) s m ar below meth c H locs 0 0 Q (F0 m 58 ls [.int y578d, .int y567d]) := by
                  intro ls y578d ly578d my578d hl
                  refine lv_iand hx hb dX10_law_58 ?_
                  have gz584 := tt_andR (x := y567d) (y := y578d) (Y := y578d.toInt) rfl (by omega)
                  refine p_bd (P := fun q => 0 ≤ q ∧ q ≤ 1) ⟨by omega, by omega⟩ (fun z585 bz585 => ?_)
                  have bz585 : 0 ≤ z585.toInt ∧ z585.toInt ≤ 1 := bz585
                  refine lv_istore_n (lv' := [(3, .int z585), (4, .int y566d), (2, .int y465d), (0, .ref (A 0)), (1, .int a0)]) hx hb dX10_law_59 rfl hl (by decide) rfl (fun ls hl => ?_)
                  obtain ⟨z586, ez586⟩ : ∃ z, z = y566d + Int32.ofInt 1 := ⟨_, rfl⟩
                  have hz586 : z586.toInt = y566d.toInt + 1 := by rw [ez586]; exact tt_add rfl (by decide) (by omega) (by omega)
                  refine lv_iinc (v := z586) (lv' := [(4, .int z586), (3, .int z585), (2, .int y465d), (0, .ref (A 0)), (1, .int a0)]) hx hb dX10_law_60 hl (k := 1) rfl ez586.symm (by decide) rfl (fun ls hl => ?_)
                  refine lv_goto (tgt := 32) hx hb dX10_law_63 (by decide) ?_
                  exact ih32_567 ls z586 z585 (by have q9 := (show z586.toInt = (y566d.toInt + 1) from hz586); omega) (by have q9 := (show z586.toInt = (y566d.toInt + 1) from hz586); omega) (by omega) (by omega) (by have q9 := (show z586.toInt = (y566d.toInt + 1) from hz586); omega) hl
                refine lv_icmp_gt (tgt := 57) hx hb dX10_law_50 (by decide) (fun c577 => ?_) (fun c577 => ?_)
                · have c577 := cLT (x := a0) (y := r575) (X := A0) (Y := r575.toInt) ha0 rfl c577
                  refine lv_iconst (v := 0) hx hb dX10_law_57 (by decide) ?_
                  exact j58_582 ls 0 (by decide) (by decide) (lv_sub hl [0, 2, 3, 4] rfl)
                · have c577 := cNLT (x := a0) (y := r575) (X := A0) (Y := r575.toInt) ha0 rfl c577
                  refine lv_iconst (v := 1) hx hb dX10_law_53 (by decide) ?_
                  refine lv_goto (tgt := 58) hx hb dX10_law_54 (by decide) ?_
                  exact j58_582 ls 1 (by decide) (by decide) (lv_sub hl [0, 2, 3, 4] rfl)
          exact lp32_567 8 ls 0 1 (by decide) (by decide) (by decide) (by decide) (by have q9 : (0 : Int32).toInt = 0 := (by decide); omega) hl
    exact lp23_465 7 ls 6 (by decide) (by decide) (by have q9 : (6 : Int32).toInt = 6 := (by decide); omega) hl
  · have c4 := cEQ (x := r2) (y := 0) (X := r2.toInt) (Y := 0) rfl (by decide) c4
    refine lv_bipush (v := (-2)) hx hb dX10_law_13 (by decide) ?_
    exact hret _ _ _ _ ((-2) : Int32) _ dX10_law_15 rfl ⟨hI, (Un.si Un.rf rfl eu1), ⟨by decide, by decide⟩⟩ hH
set_option maxHeartbeats 4000000 in
set_option maxRecDepth 100000 in
theorem kX10_lastBy_0 (l : Launch) (D : va_G) (C : Nat → ClassId) (A : Nat → Nat) (u : St) (hI : IM u) (a0 : Int32) (A0 : Int) (ha0 : a0.toInt = A0) (a1 : Int32) (A1 : Int) (ha1 : a1.toInt = A1) (a2 : Int32) (A2 : Int) (ha2 : a2.toInt = A2) (hl0 : 0 ≤ A0) (hm0 : A0 ≤ 6) (hsm : HB u a1) (sz : Nat) : MetI l yX10_lastBy cX10_lastBy 6 (some .int) 3 [.ref (A 0), .int a0, .int a1, .int a2] D (tyl C) (mw C A) X0 u sz (fun r u' => IM u' ∧ Un [] [(12, 12)] [] u u' ∧ (0 ≤ r.toInt ∧ r.toInt ≤ 5)) := by
  refine mI (by decide) (Nat.le_of_ble_eq_true rfl) ?_
  intro p e s m below meth c ls ar Q hx hb hml hown hts hK hH hX hl hret
  have hown : s.vm.findClass RX10 = some m.cls := hown
  have hl : lv_has ls 6 [(0, .ref (A 0)), (1, .int a0), (2, .int a1), (3, .int a2)] := hl
  refine lv_iconst (v := 0) hx hb dX10_lastBy_0 (by decide) ?_
  refine lv_istore (lv' := [(4, .int 0), (0, .ref (A 0)), (1, .int a0), (2, .int a1), (3, .int a2)]) hx hb dX10_lastBy_1 hl (by decide) rfl (fun ls hl => ?_)
  have lp3_442 : ∀ (n3 : Nat) (ls : Array Slot) (y441d : Int32) (u442 : St) (H : Heap) (locs : List Loc), 0 ≤ y441d.toInt → y441d.toInt ≤ 6 → 6 - y441d.toInt < (n3 : Int) → Un [] [(12, 12)] [] u u442 → IM u442 → Hd D (mw C A) (va_A (mw C A u) s.heap.size) s.heap u442 H locs → lv_has ls 6 [(4, .int y441d), (0, .ref (A 0)), (1, .int a0), (2, .int a1), (3, .int a2)] → W p l e (rmL 3 0 0) s m ar below meth c H locs 0 0 Q (F0 m 3 ls []) := by
    intro n3
    induction n3 with
    | zero => intro ls y441d u442 H locs ly441d my441d hmun3 hUu442 hI hH hl; exfalso; omega
    | succ n3 ih3_442 =>
      intro ls y441d u442 H locs ly441d my441d hmun3 hUu442 hI hH hl
      refine lv_iload hx hb dX10_lastBy_3 (lv_at hl 0 rfl) ?_
      refine lv_aload_n hx hb dX10_lastBy_5 rfl (lv_at hl 1 rfl) ?_
      refine cvS (n := 0) (As := []) (rest := [.int y441d]) ⟨hx, hb, hml, hown, hts⟩ uc_in (kX10_clocks_0 l D C A u442 hI ) q_m1464 q_n1466 q_p72 q_i11 q_c1467 hvX10_clocks ⟨(Nat.le_of_ble_eq_true rfl), (Nat.le_of_ble_eq_true rfl)⟩ ⟨(Nat.le_of_ble_eq_true rfl), (Nat.le_of_ble_eq_true rfl)⟩ hK hH.1 10 0 rfl (mwc0 C A u442) rfl hl.1 rfl (Nat.le_of_ble_eq_true rfl) dX10_lastBy_6 (fun r444 p445 => ?_)
      subst p445
      have b446 : 0 ≤ ((ga u442 7 3)).toInt ∧ ((ga u442 7 3)).toInt ≤ 6 := hI.has 3
      refine lv_icmp_ge (tgt := 48) hx hb dX10_lastBy_9 (by decide) (fun c447 => ?_) (fun c447 => ?_)
      · have c447 := cLE (x := (ga u442 7 3)) (y := y441d) (X := ((ga u442 7 3)).toInt) (Y := y441d.toInt) rfl rfl c447
        refine lv_aload_n hx hb dX10_lastBy_48 rfl (lv_at hl 1 rfl) ?_
        refine lv_iload_n hx hb dX10_lastBy_49 rfl (lv_at hl 2 rfl) ?_
        refine lv_iload_n hx hb dX10_lastBy_50 rfl (lv_at hl 3 rfl) ?_
        refine cvS (n := 2) (As := [.int a0, .int a1]) (rest := []) ⟨hx, hb, hml, hown, hts⟩ uc_in (kX10_lastOf_0 l D C A u442 hI a0 A0 ha0 a1 A1 ha1 (by omega) (by omega)) q_m1508 q_n1510 q_p80 q_i11 q_c1511 hvX10_lastOf ⟨(Nat.le_of_ble_eq_true rfl), (Nat.le_of_ble_eq_true rfl)⟩ ⟨(Nat.le_of_ble_eq_true rfl), (Nat.le_of_ble_eq_true rfl)⟩ hK hH.1 10 0 rfl (mwc0 C A u442) rfl hl.1 rfl (Nat.le_of_ble_eq_true rfl) dX10_lastBy_51 (fun r448 p449 => ?_)
        have br448 : -1 ≤ r448.toInt ∧ r448.toInt ≤ 5 := ⟨p449.1, p449.2.1⟩
        have gr448 : 0 ≤ r448.toInt := NB.pos p449.2.2 (HB.un (L := []) (M := [(12, 12)]) (N := []) hsm (Un.tr Un.rf hUu442 rfl rfl rfl) rfl)
        refine lv_istore (lv' := [(4, .int r448), (0, .ref (A 0)), (1, .int a0), (2, .int a1), (3, .int a2)]) hx hb dX10_lastBy_54 hl (by decide) rfl (fun ls hl => ?_)
        refine lv_iconst (v := 0) hx hb dX10_lastBy_56 (by decide) ?_
        refine lv_istore (lv' := [(5, .int 0), (4, .int r448), (0, .ref (A 0)), (1, .int a0), (2, .int a1), (3, .int a2)]) hx hb dX10_lastBy_57 hl (by decide) rfl (fun ls hl => ?_)
        have lp59_541 : ∀ (n59 : Nat) (ls : Array Slot) (y540d : Int32) (u541 : St) (H : Heap) (locs : List Loc), 0 ≤ y540d.toInt → y540d.toInt ≤ 6 → 6 - y540d.toInt < (n59 : Int) → Un [] [(12, 12)] [] u442 u541 → IM u541 → Hd D (mw C A) (va_A (mw C A u) s.heap.size) s.heap u541 H locs → lv_has ls 6 [(5, .int y540d), (4, .int r448), (0, .ref (A 0)), (1, .int a0), (3, .int a2)] → W p l e (rmL 3 0 0) s m ar below meth c H locs 0 0 Q (F0 m 59 ls []) := by
          intro n59
          induction n59 with
          | zero => intro ls y540d u541 H locs ly540d my540d hmun59 hUu541 hI hH hl; exfalso; omega
          | succ n59 ih59_541 =>
            intro ls y540d u541 H locs ly540d my540d hmun59 hUu541 hI hH hl
            refine lv_iload hx hb dX10_lastBy_59 (lv_at hl 0 rfl) ?_
            refine lv_aload_n hx hb dX10_lastBy_61 rfl (lv_at hl 2 rfl) ?_
            refine cvS (n := 0) (As := []) (rest := [.int y540d]) ⟨hx, hb, hml, hown, hts⟩ uc_in (kX10_clocks_0 l D C A u541 hI ) q_m1464 q_n1466 q_p72 q_i11 q_c1467 hvX10_clocks ⟨(Nat.le_of_ble_eq_true rfl), (Nat.le_of_ble_eq_true rfl)⟩ ⟨(Nat.le_of_ble_eq_true rfl), (Nat.le_of_ble_eq_true rfl)⟩ hK hH.1 10 0 rfl (mwc0 C A u541) rfl hl.1 rfl (Nat.le_of_ble_eq_true rfl) dX10_lastBy_62 (fun r543 p544 => ?_)
            subst p544
            refine pv_i (v := (ga u442 7 3)) ((congrFun (hUu541.2.1 7 rfl) _).trans rfl) ?_
            refine lv_icmp_ge (tgt := 104) hx hb dX10_lastBy_65 (by decide) (fun c545 => ?_) (fun c545 => ?_)
            · have c545 := cLE (x := (ga u442 7 3)) (y := y540d) (X := ((ga u442 7 3)).toInt) (Y := y540d.toInt) rfl rfl c545
              refine lv_iload hx hb dX10_lastBy_104 (lv_at hl 1 rfl) ?_
              exact hret _ _ _ _ r448 _ dX10_lastBy_106 rfl ⟨hI, (Un.tr (Un.tr Un.rf hUu442 rfl rfl rfl) hUu541 rfl rfl rfl), ⟨by omega, by omega⟩⟩ hH
            · have c545 := cNLE (x := (ga u442 7 3)) (y := y540d) (X := ((ga u442 7 3)).toInt) (Y := y540d.toInt) rfl rfl c545
              refine lv_aload_n hx hb dX10_lastBy_68 rfl (lv_at hl 2 rfl) ?_
              refine va_get (ci := 10) (v := .ref (A 12)) (C := RX10) (T := TX10) (N := 42) hx hb hts (fun w h => uc_in w (inX10 w h)) hown hK hH.1 0 (mwc0 C A u541) rfl 22 (by decide) (hts _ (uc_in _ q_f1210)) (fun _ h9 => h9) rfl dX10_lastBy_69 ?_
              refine lv_bipush (v := 6) hx hb dX10_lastBy_72 (by decide) ?_
              refine lv_iload_n hx hb dX10_lastBy_74 rfl (lv_at hl 3 rfl) ?_
              refine lv_imul hx hb dX10_lastBy_75 ?_
              refine p_nm (tt_mul (X := 6) (Y := A0) (by decide) ha0 (by omega) (by omega)) (fun z546 hz546 => ?_)
              refine lv_iload hx hb dX10_lastBy_76 (lv_at hl 0 rfl) ?_
              refine lv_iadd hx hb dX10_lastBy_78 ?_
              refine p_nm (tt_add (X := (6 * A0)) (Y := y540d.toInt) hz546 rfl (by omega) (by omega)) (fun z547 hz547 => ?_)
              refine lv_dup2_11 hx hb dX10_lastBy_79 rfl rfl ?_
              refine va_iald hx hb hK hH.1 12 1 (mwc12 C A u541) rfl (i_ix hz547 (by omega) (by omega)) dX10_lastBy_80 ?_
              refine p_any (fun z548 => ?_)
              refine lv_iload_n hx hb dX10_lastBy_81 rfl (lv_at hl 4 rfl) ?_
              refine lv_iload hx hb dX10_lastBy_82 (lv_at hl 0 rfl) ?_
              refine csS (n := 2) (As := [.int a2, .int y540d]) (rest := [.int z548, .int z547, .ref (A 12)]) ⟨hx, hb, hml, hown, hts⟩ uc_in (kX10_isBit_0 l D C A u541 hI a2 A2 ha2 y540d y540d.toInt rfl) q_m1489 q_s1490 q_i11 q_c1491 hvX10_isBit ⟨(Nat.le_of_ble_eq_true rfl), (Nat.le_of_ble_eq_true rfl)⟩ ⟨(Nat.le_of_ble_eq_true rfl), (Nat.le_of_ble_eq_true rfl)⟩ hK hH.1 rfl hl.1 rfl (Nat.le_of_ble_eq_true rfl) dX10_lastBy_84 (fun r549 p550 => ?_)
              have p550 : 0 ≤ r549.toInt ∧ r549.toInt ≤ 1 := by rcases p550 with ⟨e9, -⟩ | ⟨e9, -⟩ <;> rw [e9] <;> decide
              have j96_556 : ∀ (ls : Array Slot) (y552d : Int32), 0 ≤ y552d.toInt → y552d.toInt ≤ 30 → lv_has ls 6 [(5, .int y540d), (4, .int r448), (0, .ref (A 0)), (1, .int a0), (3, .int a2)] → W p l e (rmL 3 0 0) s m ar below meth c H locs 0 0 Q (F0 m 96 ls [.int y552d, .int z548, .int z547, .ref (A 12)]) := by
                intro ls y552d ly552d my552d hl
                refine lv_isub hx hb dX10_lastBy_96 ?_
                refine p_any (fun z558 => ?_)
                refine r_iast (j := 12) hx hb hK hH 12 1 (mwc12 C A u541) rfl (i_ix hz547 (by omega) (by omega)) (mwa12 C A u541) dX10_lastBy_97 (fun u559 eu559 H locs hH => ?_)
                have hI := hI.pa0 eu559 (by decide) (by decide) (by decide)
                obtain ⟨z560, ez560⟩ : ∃ z, z = y540d + Int32.ofInt 1 := ⟨_, rfl⟩
                have hz560 : z560.toInt = y540d.toInt + 1 := by rw [ez560]; exact tt_add rfl (by decide) (by omega) (by omega)
                refine lv_iinc (v := z560) (lv' := [(5, .int z560), (4, .int r448), (0, .ref (A 0)), (1, .int a0), (3, .int a2)]) hx hb dX10_lastBy_98 hl (k := 0) rfl ez560.symm (by decide) rfl (fun ls hl => ?_)
                refine lv_goto (tgt := 59) hx hb dX10_lastBy_101 (by decide) ?_
                exact ih59_541 ls z560 u559 _ _ (by have q9 := (show z560.toInt = (y540d.toInt + 1) from hz560); omega) (by have q9 := (show z560.toInt = (y540d.toInt + 1) from hz560); omega) (by have q9 := (show z560.toInt = (y540d.toInt + 1) from hz560); omega) (Un.sa hUu541 rfl eu559) hI hH hl
              refine lv_if_eq (tgt := 95) hx hb dX10_lastBy_87 (by decide) (fun c551 => ?_) (fun c551 => ?_)
              · have c551 := cEQ (x := r549) (y := 0) (X := r549.toInt) (Y := 0) rfl (by decide) c551
                refine lv_iconst (v := 0) hx hb dX10_lastBy_95 (by decide) ?_
                exact j96_556 ls 0 (by decide) (by decide) hl
              · have c551 := cNE (x := r549) (y := 0) (X := r549.toInt) (Y := 0) rfl (by decide) c551
                refine lv_bipush (v := 30) hx hb dX10_lastBy_90 (by decide) ?_
                refine lv_goto (tgt := 96) hx hb dX10_lastBy_92 (by decide) ?_
                exact j96_556 ls 30 (by decide) (by decide) hl
        exact lp59_541 7 ls 0 u442 _ _ (by decide) (by decide) (by have q9 : (0 : Int32).toInt = 0 := (by decide); omega) Un.rf hI hH (lv_sub hl [0, 1, 2, 3, 5] rfl)
      · have c447 := cNLE (x := (ga u442 7 3)) (y := y441d) (X := ((ga u442 7 3)).toInt) (Y := y441d.toInt) rfl rfl c447
        refine lv_aload_n hx hb dX10_lastBy_12 rfl (lv_at hl 1 rfl) ?_
        refine va_get (ci := 10) (v := .ref (A 12)) (C := RX10) (T := TX10) (N := 42) hx hb hts (fun w h => uc_in w (inX10 w h)) hown hK hH.1 0 (mwc0 C A u442) rfl 22 (by decide) (hts _ (uc_in _ q_f1210)) (fun _ h9 => h9) rfl dX10_lastBy_13 ?_
        refine lv_bipush (v := 6) hx hb dX10_lastBy_16 (by decide) ?_
        refine lv_iload_n hx hb dX10_lastBy_18 rfl (lv_at hl 2 rfl) ?_
        refine lv_imul hx hb dX10_lastBy_19 ?_
        refine p_nm (tt_mul (X := 6) (Y := A0) (by decide) ha0 (by omega) (by omega)) (fun z561 hz561 => ?_)
        refine lv_iload hx hb dX10_lastBy_20 (lv_at hl 0 rfl) ?_
        refine lv_iadd hx hb dX10_lastBy_22 ?_
        refine p_nm (tt_add (X := (6 * A0)) (Y := y441d.toInt) hz561 rfl (by omega) (by omega)) (fun z562 hz562 => ?_)
        refine lv_dup2_11 hx hb dX10_lastBy_23 rfl rfl ?_
        refine va_iald hx hb hK hH.1 12 1 (mwc12 C A u442) rfl (i_ix hz562 (by omega) (by omega)) dX10_lastBy_24 ?_
        refine p_any (fun z563 => ?_)
        refine lv_iload_n hx hb dX10_lastBy_25 rfl (lv_at hl 4 rfl) ?_
        refine lv_iload hx hb dX10_lastBy_26 (lv_at hl 0 rfl) ?_
        refine csS (n := 2) (As := [.int a2, .int y441d]) (rest := [.int z563, .int z562, .ref (A 12)]) ⟨hx, hb, hml, hown, hts⟩ uc_in (kX10_isBit_0 l D C A u442 hI a2 A2 ha2 y441d y441d.toInt rfl) q_m1489 q_s1490 q_i11 q_c1491 hvX10_isBit ⟨(Nat.le_of_ble_eq_true rfl), (Nat.le_of_ble_eq_true rfl)⟩ ⟨(Nat.le_of_ble_eq_true rfl), (Nat.le_of_ble_eq_true rfl)⟩ hK hH.1 rfl hl.1 rfl (Nat.le_of_ble_eq_true rfl) dX10_lastBy_28 (fun r564 p565 => ?_)
        have p565 : 0 ≤ r564.toInt ∧ r564.toInt ≤ 1 := by rcases p565 with ⟨e9, -⟩ | ⟨e9, -⟩ <;> rw [e9] <;> decide
        have j40_571 : ∀ (ls : Array Slot) (y567d : Int32), 0 ≤ y567d.toInt → y567d.toInt ≤ 30 → lv_has ls 6 [(4, .int y441d), (0, .ref (A 0)), (1, .int a0), (2, .int a1), (3, .int a2)] → W p l e (rmL 3 0 0) s m ar below meth c H locs 0 0 Q (F0 m 40 ls [.int y567d, .int z563, .int z562, .ref (A 12)]) := by
          intro ls y567d ly567d my567d hl
          refine lv_iadd hx hb dX10_lastBy_40 ?_
          refine p_any (fun z573 => ?_)
          refine r_iast (j := 12) hx hb hK hH 12 1 (mwc12 C A u442) rfl (i_ix hz562 (by omega) (by omega)) (mwa12 C A u442) dX10_lastBy_41 (fun u574 eu574 H locs hH => ?_)
          have hI := hI.pa0 eu574 (by decide) (by decide) (by decide)
          obtain ⟨z575, ez575⟩ : ∃ z, z = y441d + Int32.ofInt 1 := ⟨_, rfl⟩
          have hz575 : z575.toInt = y441d.toInt + 1 := by rw [ez575]; exact tt_add rfl (by decide) (by omega) (by omega)
          refine lv_iinc (v := z575) (lv' := [(4, .int z575), (0, .ref (A 0)), (1, .int a0), (2, .int a1), (3, .int a2)]) hx hb dX10_lastBy_42 hl (k := 0) rfl ez575.symm (by decide) rfl (fun ls hl => ?_)
          refine lv_goto (tgt := 3) hx hb dX10_lastBy_45 (by decide) ?_
          exact ih3_442 ls z575 u574 _ _ (by have q9 := (show z575.toInt = (y441d.toInt + 1) from hz575); omega) (by have q9 := (show z575.toInt = (y441d.toInt + 1) from hz575); omega) (by have q9 := (show z575.toInt = (y441d.toInt + 1) from hz575); omega) (Un.sa hUu442 rfl eu574) hI hH hl
        refine lv_if_eq (tgt := 39) hx hb dX10_lastBy_31 (by decide) (fun c566 => ?_) (fun c566 => ?_)
        · have c566 := cEQ (x := r564) (y := 0) (X := r564.toInt) (Y := 0) rfl (by decide) c566
          refine lv_iconst (v := 0) hx hb dX10_lastBy_39 (by decide) ?_
          exact j40_571 ls 0 (by decide) (by decide) hl
        · have c566 := cNE (x := r564) (y := 0) (X := r564.toInt) (Y := 0) rfl (by decide) c566
          refine lv_bipush (v := 30) hx hb dX10_lastBy_34 (by decide) ?_
          refine lv_goto (tgt := 40) hx hb dX10_lastBy_36 (by decide) ?_
          exact j40_571 ls 30 (by decide) (by decide) hl
  exact lp3_442 7 ls 0 u _ _ (by decide) (by decide) (by have q9 : (0 : Int32).toInt = 0 := (by decide); omega) Un.rf hI hH hl
set_option maxHeartbeats 4000000 in
set_option maxRecDepth 100000 in
theorem kX10_likely_0 (l : Launch) (D : va_G) (C : Nat → ClassId) (A : Nat → Nat) (u : St) (hI : IM u) (a0 : Int32) (A0 : Int) (ha0 : a0.toInt = A0) (sz : Nat) : MetI l yX10_likely cX10_likely 8 (some .int) 4 [.ref (A 0), .int a0] D (tyl C) (mw C A) X0 u sz (fun r u' => IM u' ∧ Un [(0, 0), (24, 24), (25, 25)] [(12, 12), (13, 13), (18, 18)] [] u u' ∧ ((-2) ≤ r.toInt ∧ r.toInt ≤ 5)) := by
  refine mI (by decide) (Nat.le_of_ble_eq_true rfl) ?_
  intro p e s m below meth c ls ar Q hx hb hml hown hts hK hH hX hl hret
  have hown : s.vm.findClass RX10 = some m.cls := hown
  have hl : lv_has ls 8 [(0, .ref (A 0)), (1, .int a0)] := hl
  refine lv_aload_n hx hb dX10_likely_0 rfl (lv_at hl 0 rfl) ?_
  refine lv_iconst (v := 0) hx hb dX10_likely_1 (by decide) ?_
  refine r_put (j := 0) (ci := 10) (C := RX10) (T := TX10) (N := 42) hx hb hts (fun w h => uc_in w (inX10 w h)) tyX10 tyX10_ok nmX10 hown hK hH 0 (mwc0 C A u) rfl 0 (by decide) (hts _ (uc_in _ q_f1188)) (fun _ h9 => h9) rfl (by decide +kernel) (Nat.le_of_ble_eq_true rfl) (mws0 C A u _) dX10_likely_2 (fun u1 eu1 H locs hH => ?_)
  have hI := hI.pi0 eu1 rfl
  refine lv_aload_n hx hb dX10_likely_5 rfl (lv_at hl 0 rfl) ?_
  refine lv_iload_n hx hb dX10_likely_6 rfl (lv_at hl 1 rfl) ?_
  refine lv_i2l (v := a0.toInt64) hx hb dX10_likely_7 rfl ?_
  refine cvS (n := 1) (As := [.long a0.toInt64]) (rest := []) ⟨hx, hb, hml, hown, hts⟩ uc_in (kX10_isDay_0 l D C A u1 hI a0.toInt64 A0 (tt_i2l ha0)) q_m1473 q_n1475 q_p73 q_i11 q_c1476 hvX10_isDay ⟨(Nat.le_of_ble_eq_true rfl), (Nat.le_of_ble_eq_true rfl)⟩ ⟨(Nat.le_of_ble_eq_true rfl), (Nat.le_of_ble_eq_true rfl)⟩ hK hH.1 10 0 rfl (mwc0 C A u1) rfl hl.1 rfl (Nat.le_of_ble_eq_true rfl) dX10_likely_8 (fun r2 p3 => ?_)
  rcases p3 with ⟨e9, f4, f5⟩ | e9
  · subst e9
    have b7 : 0 ≤ ((ga u1 7 0)).toInt ∧ ((ga u1 7 0)).toInt ≤ 7 := hI.has 0
    refine lv_if_ne (tgt := 17) hx hb dX10_likely_11 (by decide) (fun c8 => ?_) (fun c8 => absurd c8 (by decide))
    refine lv_aload_n hx hb dX10_likely_17 rfl (lv_at hl 0 rfl) ?_
    refine cvU (n := 0) (As := []) (rest := []) ⟨hx, hb, hml, hown, hts⟩ uc_in (kX10_lays_0 l D C A u1 hI  _) q_m1481 q_n1483 q_p75 q_i11 q_c1484 hvX10_lays ⟨(Nat.le_of_ble_eq_true rfl), (Nat.le_of_ble_eq_true rfl)⟩ ⟨(Nat.le_of_ble_eq_true rfl), (Nat.le_of_ble_eq_true rfl)⟩ hK hH (fun q h => Or.inr h) Bl0 (fun _ _ _ => trivial) 10 0 rfl (mwc0 C A u1) rfl hl.1 rfl (Nat.le_of_ble_eq_true rfl) dX10_likely_18 (fun u9 H locs p11 hH => ?_)
    obtain ⟨hI, hUu9, p11⟩ := p11
    refine lv_aload_n hx hb dX10_likely_21 rfl (lv_at hl 0 rfl) ?_
    refine lv_iload_n hx hb dX10_likely_22 rfl (lv_at hl 1 rfl) ?_
    refine cvS (n := 1) (As := [.int a0]) (rest := []) ⟨hx, hb, hml, hown, hts⟩ uc_in (kX10_countsOf_0 l D C A u9 hI a0 A0 ha0 (by omega) (by omega)) q_m1500 q_n1502 q_p78 q_i11 q_c1503 hvX10_countsOf ⟨(Nat.le_of_ble_eq_true rfl), (Nat.le_of_ble_eq_true rfl)⟩ ⟨(Nat.le_of_ble_eq_true rfl), (Nat.le_of_ble_eq_true rfl)⟩ hK hH.1 10 0 rfl (mwc0 C A u9) rfl hl.1 rfl (Nat.le_of_ble_eq_true rfl) dX10_likely_23 (fun r12 p13 => ?_)
    have g14 : (ga u9 7 3).toInt ≤ 6 := (hI.has 3).2
    have br12 : 0 ≤ r12.toInt ∧ r12.toInt ≤ 63 := ⟨p13.1, p13.2.1⟩
    refine lv_istore_n (lv' := [(2, .int r12), (0, .ref (A 0)), (1, .int a0)]) hx hb dX10_likely_26 rfl hl (by decide) rfl (fun ls hl => ?_)
    refine lv_iload_n hx hb dX10_likely_27 rfl (lv_at hl 0 rfl) ?_
    refine lv_if_ne (tgt := 33) hx hb dX10_likely_28 (by decide) (fun c15 => ?_) (fun c15 => ?_)
    · have c15 := cNE (x := r12) (y := 0) (X := r12.toInt) (Y := 0) rfl (by decide) c15
      refine lv_iconst (v := 0) hx hb dX10_likely_33 (by decide) ?_
      refine lv_istore_n (lv' := [(3, .int 0), (2, .int r12), (0, .ref (A 0)), (1, .int a0)]) hx hb dX10_likely_34 rfl hl (by decide) rfl (fun ls hl => ?_)
      have lp35_5367 : ∀ (n35 : Nat) (ls : Array Slot) (y5366d : Int32) (u5367 : St) (H : Heap) (locs : List Loc), 0 ≤ y5366d.toInt → y5366d.toInt ≤ 6 → 6 - y5366d.toInt < (n35 : Int) → Un [] [(12, 12), (18, 18)] [] u9 u5367 → IM u5367 → Hd D (mw C A) (va_A (mw C A u) s.heap.size) s.heap u5367 H locs → lv_has ls 8 [(3, .int y5366d), (2, .int r12), (0, .ref (A 0)), (1, .int a0)] → W p l e (rmL 4 0 0) s m ar below meth c H locs 0 0 Q (F0 m 35 ls []) := by
        intro n35
        induction n35 with
        | zero => intro ls y5366d u5367 H locs ly5366d my5366d hmun35 hUu5367 hI hH hl; exfalso; omega
        | succ n35 ih35_5367 =>
          intro ls y5366d u5367 H locs ly5366d my5366d hmun35 hUu5367 hI hH hl
          refine lv_iload_n hx hb dX10_likely_35 rfl (lv_at hl 0 rfl) ?_
          refine lv_bipush (v := 6) hx hb dX10_likely_36 (by decide) ?_
          refine lv_icmp_ge (tgt := 54) hx hb dX10_likely_38 (by decide) (fun c5369 => ?_) (fun c5369 => ?_)
          · have c5369 := cLE (x := 6) (y := y5366d) (X := 6) (Y := y5366d.toInt) (by decide) rfl c5369
            refine lv_iconst (v := 0) hx hb dX10_likely_54 (by decide) ?_
            refine lv_istore_n (lv' := [(3, .int 0), (2, .int r12), (0, .ref (A 0)), (1, .int a0)]) hx hb dX10_likely_55 rfl hl (by decide) rfl (fun ls hl => ?_)
            have lp56_10299 : ∀ (n56 : Nat) (ls : Array Slot) (y10298d : Int32) (u10299 : St) (H : Heap) (locs : List Loc), 0 ≤ y10298d.toInt → y10298d.toInt ≤ 64 → 64 - y10298d.toInt < (n56 : Int) → Un [] [(12, 12), (18, 18)] [] u5367 u10299 → IM u10299 → Hd D (mw C A) (va_A (mw C A u) s.heap.size) s.heap u10299 H locs → lv_has ls 8 [(3, .int y10298d), (2, .int r12), (0, .ref (A 0)), (1, .int a0)] → W p l e (rmL 4 0 0) s m ar below meth c H locs 0 0 Q (F0 m 56 ls []) := by
              intro n56
              induction n56 with
              | zero => intro ls y10298d u10299 H locs ly10298d my10298d hmun56 hUu10299 hI hH hl; exfalso; omega
              | succ n56 ih56_10299 =>
                intro ls y10298d u10299 H locs ly10298d my10298d hmun56 hUu10299 hI hH hl
                refine lv_iload_n hx hb dX10_likely_56 rfl (lv_at hl 0 rfl) ?_
                refine lv_iconst (v := 1) hx hb dX10_likely_57 (by decide) ?_
                refine lv_aload_n hx hb dX10_likely_58 rfl (lv_at hl 2 rfl) ?_
                refine cvS (n := 0) (As := []) (rest := [.int 1, .int y10298d]) ⟨hx, hb, hml, hown, hts⟩ uc_in (kX10_clocks_0 l D C A u10299 hI ) q_m1464 q_n1466 q_p72 q_i11 q_c1467 hvX10_clocks ⟨(Nat.le_of_ble_eq_true rfl), (Nat.le_of_ble_eq_true rfl)⟩ ⟨(Nat.le_of_ble_eq_true rfl), (Nat.le_of_ble_eq_true rfl)⟩ hK hH.1 10 0 rfl (mwc0 C A u10299) rfl hl.1 rfl (Nat.le_of_ble_eq_true rfl) dX10_likely_59 (fun r10301 p10302 => ?_)
                subst p10302
                have b10303 : 0 ≤ ((ga u10299 7 3)).toInt ∧ ((ga u10299 7 3)).toInt ≤ 6 := hI.has 3
                refine lv_ishl hx hb dX10_likely_62 ?_
                have gz10304 := tt_shl1 (y := (ga u10299 7 3)) (Y := ((ga u10299 7 3)).toInt) rfl (by omega) (by omega)
                refine p_bd (P := fun q => 1 ≤ q ∧ q ≤ 64) ⟨by omega, by omega⟩ (fun z10305 bz10305 => ?_)
                have bz10305 : 1 ≤ z10305.toInt ∧ z10305.toInt ≤ 64 := bz10305
                refine lv_icmp_ge (tgt := 211) hx hb dX10_likely_63 (by decide) (fun c10306 => ?_) (fun c10306 => ?_)
                · have c10306 := cLE (x := z10305) (y := y10298d) (X := z10305.toInt) (Y := y10298d.toInt) rfl rfl c10306
                  refine lv_iconst (v := (-1)) hx hb dX10_likely_211 (by decide) ?_
                  refine lv_istore_n (lv' := [(3, .int (-1)), (2, .int r12), (0, .ref (A 0)), (1, .int a0)]) hx hb dX10_likely_212 rfl hl (by decide) rfl (fun ls hl => ?_)
                  refine lv_iconst (v := 0) hx hb dX10_likely_213 (by decide) ?_
                  refine lv_istore (lv' := [(4, .int 0), (3, .int (-1)), (2, .int r12), (0, .ref (A 0)), (1, .int a0)]) hx hb dX10_likely_214 hl (by decide) rfl (fun ls hl => ?_)
                  have lp216_10382 : ∀ (n216 : Nat) (ls : Array Slot) (y10381d : Int32) (y10382d : Int32), 0 ≤ y10381d.toInt → y10381d.toInt ≤ 6 → (-1) ≤ y10382d.toInt → y10382d.toInt ≤ 5 → 6 - y10381d.toInt < (n216 : Int) → lv_has ls 8 [(4, .int y10381d), (3, .int y10382d), (2, .int r12), (0, .ref (A 0))] → W p l e (rmL 4 0 0) s m ar below meth c H locs 0 0 Q (F0 m 216 ls []) := by
                    intro n216
                    induction n216 with
                    | zero => intro ls y10381d y10382d ly10381d my10381d ly10382d my10382d hmun216 hl; exfalso; omega
                    | succ n216 ih216_10382 =>
                      intro ls y10381d y10382d ly10381d my10381d ly10382d my10382d hmun216 hl
                      refine lv_iload hx hb dX10_likely_216 (lv_at hl 0 rfl) ?_
                      refine lv_aload_n hx hb dX10_likely_218 rfl (lv_at hl 3 rfl) ?_
                      refine cvS (n := 0) (As := []) (rest := [.int y10381d]) ⟨hx, hb, hml, hown, hts⟩ uc_in (kX10_clocks_0 l D C A u10299 hI ) q_m1464 q_n1466 q_p72 q_i11 q_c1467 hvX10_clocks ⟨(Nat.le_of_ble_eq_true rfl), (Nat.le_of_ble_eq_true rfl)⟩ ⟨(Nat.le_of_ble_eq_true rfl), (Nat.le_of_ble_eq_true rfl)⟩ hK hH.1 10 0 rfl (mwc0 C A u10299) rfl hl.1 rfl (Nat.le_of_ble_eq_true rfl) dX10_likely_219 (fun r10384 p10385 => ?_)
                      subst p10385
                      refine lv_icmp_ge (tgt := 264) hx hb dX10_likely_222 (by decide) (fun c10386 => ?_) (fun c10386 => ?_)
                      · have c10386 := cLE (x := (ga u10299 7 3)) (y := y10381d) (X := ((ga u10299 7 3)).toInt) (Y := y10381d.toInt) rfl rfl c10386
                        refine lv_iload_n hx hb dX10_likely_264 rfl (lv_at hl 1 rfl) ?_
                        exact hret _ _ _ _ y10382d _ dX10_likely_265 rfl ⟨hI, (Un.tr (Un.tr (Un.tr (Un.si Un.rf rfl eu1) hUu9 rfl rfl rfl) hUu5367 rfl rfl rfl) hUu10299 rfl rfl rfl), ⟨by omega, by omega⟩⟩ hH
                      · have c10386 := cNLE (x := (ga u10299 7 3)) (y := y10381d) (X := ((ga u10299 7 3)).toInt) (Y := y10381d.toInt) rfl rfl c10386
                        refine lv_iload_n hx hb dX10_likely_225 rfl (lv_at hl 2 rfl) ?_
                        refine lv_iload hx hb dX10_likely_226 (lv_at hl 0 rfl) ?_
                        refine csS (n := 2) (As := [.int r12, .int y10381d]) (rest := []) ⟨hx, hb, hml, hown, hts⟩ uc_in (kX10_isBit_0 l D C A u10299 hI r12 r12.toInt rfl y10381d y10381d.toInt rfl) q_m1489 q_s1490 q_i11 q_c1491 hvX10_isBit ⟨(Nat.le_of_ble_eq_true rfl), (Nat.le_of_ble_eq_true rfl)⟩ ⟨(Nat.le_of_ble_eq_true rfl), (Nat.le_of_ble_eq_true rfl)⟩ hK hH.1 rfl hl.1 rfl (Nat.le_of_ble_eq_true rfl) dX10_likely_228 (fun r10387 p10388 => ?_)
                        have p10388 : 0 ≤ r10387.toInt ∧ r10387.toInt ≤ 1 := by rcases p10388 with ⟨e9, -⟩ | ⟨e9, -⟩ <;> rw [e9] <;> decide
                        have j258_10396 : ∀ (ls : Array Slot) (y10394d : Int32), (-1) ≤ y10394d.toInt → y10394d.toInt ≤ 5 → lv_has ls 8 [(4, .int y10381d), (3, .int y10394d), (2, .int r12), (0, .ref (A 0))] → W p l e (rmL 4 0 0) s m ar below meth c H locs 0 0 Q (F0 m 258 ls []) := by
                          intro ls y10394d ly10394d my10394d hl
                          obtain ⟨z10398, ez10398⟩ : ∃ z, z = y10381d + Int32.ofInt 1 := ⟨_, rfl⟩
                          have hz10398 : z10398.toInt = y10381d.toInt + 1 := by rw [ez10398]; exact tt_add rfl (by decide) (by omega) (by omega)
                          refine lv_iinc (v := z10398) (lv' := [(4, .int z10398), (3, .int y10394d), (2, .int r12), (0, .ref (A 0))]) hx hb dX10_likely_258 hl (k := 0) rfl ez10398.symm (by decide) rfl (fun ls hl => ?_)
                          refine lv_goto (tgt := 216) hx hb dX10_likely_261 (by decide) ?_
                          exact ih216_10382 ls z10398 y10394d (by have q9 := (show z10398.toInt = (y10381d.toInt + 1) from hz10398); omega) (by have q9 := (show z10398.toInt = (y10381d.toInt + 1) from hz10398); omega) (by omega) (by omega) (by have q9 := (show z10398.toInt = (y10381d.toInt + 1) from hz10398); omega) hl
                        refine lv_if_eq (tgt := 258) hx hb dX10_likely_231 (by decide) (fun c10389 => ?_) (fun c10389 => ?_)
                        · have c10389 := cEQ (x := r10387) (y := 0) (X := r10387.toInt) (Y := 0) rfl (by decide) c10389
                          exact j258_10396 ls y10382d (by omega) (by omega) hl
                        · have c10389 := cNE (x := r10387) (y := 0) (X := r10387.toInt) (Y := 0) rfl (by decide) c10389
                          refine lv_iload_n hx hb dX10_likely_234 rfl (lv_at hl 1 rfl) ?_
                          refine lv_iconst (v := (-1)) hx hb dX10_likely_235 (by decide) ?_
                          have j255_10403 : ∀ (ls : Array Slot), lv_has ls 8 [(4, .int y10381d), (2, .int r12), (0, .ref (A 0))] → W p l e (rmL 4 0 0) s m ar below meth c H locs 0 0 Q (F0 m 255 ls []) := by
                            intro ls hl
                            refine lv_iload hx hb dX10_likely_255 (lv_at hl 0 rfl) ?_
                            refine lv_istore_n (lv' := [(3, .int y10381d), (4, .int y10381d), (2, .int r12), (0, .ref (A 0))]) hx hb dX10_likely_257 rfl hl (by decide) rfl (fun ls hl => ?_)
                            exact j258_10396 ls y10381d (by omega) (by omega) (lv_sub hl [1, 0, 2, 3] rfl)
                          refine lv_icmp_eq (tgt := 255) hx hb dX10_likely_236 (by decide) (fun c10399 => ?_) (fun c10399 => ?_)
                          · have c10399 := cEQ (x := y10382d) (y := (-1)) (X := y10382d.toInt) (Y := (-1)) rfl (by decide) c10399
                            exact j255_10403 ls (lv_sub hl [0, 2, 3] rfl)
                          · have c10399 := cNE (x := y10382d) (y := (-1)) (X := y10382d.toInt) (Y := (-1)) rfl (by decide) c10399
                            refine lv_aload_n hx hb dX10_likely_239 rfl (lv_at hl 3 rfl) ?_
                            refine va_get (ci := 10) (v := .ref (A 18)) (C := RX10) (T := TX10) (N := 42) hx hb hts (fun w h => uc_in w (inX10 w h)) hown hK hH.1 0 (mwc0 C A u10299) rfl 38 (by decide) (hts _ (uc_in _ q_f1226)) (fun _ h9 => h9) rfl dX10_likely_240 ?_
                            refine lv_iload hx hb dX10_likely_243 (lv_at hl 0 rfl) ?_
                            refine va_iald hx hb hK hH.1 18 1 (mwc18 C A u10299) rfl (i_ix rfl (by omega) (by omega)) dX10_likely_245 ?_
                            refine p_any (fun z10405 => ?_)
                            refine lv_aload_n hx hb dX10_likely_246 rfl (lv_at hl 3 rfl) ?_
                            refine va_get (ci := 10) (v := .ref (A 18)) (C := RX10) (T := TX10) (N := 42) hx hb hts (fun w h => uc_in w (inX10 w h)) hown hK hH.1 0 (mwc0 C A u10299) rfl 38 (by decide) (hts _ (uc_in _ q_f1226)) (fun _ h9 => h9) rfl dX10_likely_247 ?_
                            refine lv_iload_n hx hb dX10_likely_250 rfl (lv_at hl 1 rfl) ?_
                            refine va_iald hx hb hK hH.1 18 1 (mwc18 C A u10299) rfl (i_ix rfl (by omega) (by omega)) dX10_likely_251 ?_
                            refine p_any (fun z10406 => ?_)
                            refine lv_icmp_le (tgt := 258) hx hb dX10_likely_252 (by decide) (fun c10407 => ?_) (fun c10407 => ?_)
                            · have c10407 := cLE (x := z10405) (y := z10406) (X := z10405.toInt) (Y := z10406.toInt) rfl rfl c10407
                              exact j258_10396 ls y10382d (by omega) (by omega) hl
                            · have c10407 := cNLE (x := z10405) (y := z10406) (X := z10405.toInt) (Y := z10406.toInt) rfl rfl c10407
                              exact j255_10403 ls (lv_sub hl [0, 2, 3] rfl)
                  exact lp216_10382 7 ls 0 (-1) (by decide) (by decide) (by decide) (by decide) (by have q9 : (0 : Int32).toInt = 0 := (by decide); omega) (lv_sub hl [0, 1, 2, 3] rfl)
                · have c10306 := cNLE (x := z10305) (y := y10298d) (X := z10305.toInt) (Y := y10298d.toInt) rfl rfl c10306
                  refine lv_iconst (v := 1) hx hb dX10_likely_66 (by decide) ?_
                  refine lv_istore (lv' := [(4, .int 1), (3, .int y10298d), (2, .int r12), (0, .ref (A 0)), (1, .int a0)]) hx hb dX10_likely_67 hl (by decide) rfl (fun ls hl => ?_)
                  refine lv_iconst (v := 1) hx hb dX10_likely_69 (by decide) ?_
                  refine lv_istore (lv' := [(5, .int 1), (4, .int 1), (3, .int y10298d), (2, .int r12), (0, .ref (A 0)), (1, .int a0)]) hx hb dX10_likely_70 hl (by decide) rfl (fun ls hl => ?_)
                  refine lv_iconst (v := 0) hx hb dX10_likely_72 (by decide) ?_
                  refine lv_istore (lv' := [(6, .int 0), (5, .int 1), (4, .int 1), (3, .int y10298d), (2, .int r12), (0, .ref (A 0)), (1, .int a0)]) hx hb dX10_likely_73 hl (by decide) rfl (fun ls hl => ?_)
                  have lp75_10667 : ∀ (n75 : Nat) (ls : Array Slot) (y10664d : Int32) (y10665d : Int32) (y10666d : Int32) (u10667 : St) (H : Heap) (locs : List Loc), 0 ≤ y10664d.toInt → y10664d.toInt ≤ 6 → 0 ≤ y10665d.toInt → y10665d.toInt ≤ 1 → 6 - y10664d.toInt < (n75 : Int) → Un [] [(12, 12), (18, 18)] [] u10299 u10667 → IM u10667 → Hd D (mw C A) (va_A (mw C A u) s.heap.size) s.heap u10667 H locs → lv_has ls 8 [(6, .int y10664d), (5, .int y10665d), (4, .int y10666d), (3, .int y10298d), (2, .int r12), (0, .ref (A 0)), (1, .int a0)] → W p l e (rmL 4 0 0) s m ar below meth c H locs 0 0 Q (F0 m 75 ls []) := by
                    intro n75
                    induction n75 with
                    | zero => intro ls y10664d y10665d y10666d u10667 H locs ly10664d my10664d ly10665d my10665d hmun75 hUu10667 hI hH hl; exfalso; omega
                    | succ n75 ih75_10667 =>
                      intro ls y10664d y10665d y10666d u10667 H locs ly10664d my10664d ly10665d my10665d hmun75 hUu10667 hI hH hl
                      refine lv_iload hx hb dX10_likely_75 (lv_at hl 0 rfl) ?_
                      refine lv_aload_n hx hb dX10_likely_77 rfl (lv_at hl 5 rfl) ?_
                      refine cvS (n := 0) (As := []) (rest := [.int y10664d]) ⟨hx, hb, hml, hown, hts⟩ uc_in (kX10_clocks_0 l D C A u10667 hI ) q_m1464 q_n1466 q_p72 q_i11 q_c1467 hvX10_clocks ⟨(Nat.le_of_ble_eq_true rfl), (Nat.le_of_ble_eq_true rfl)⟩ ⟨(Nat.le_of_ble_eq_true rfl), (Nat.le_of_ble_eq_true rfl)⟩ hK hH.1 10 0 rfl (mwc0 C A u10667) rfl hl.1 rfl (Nat.le_of_ble_eq_true rfl) dX10_likely_78 (fun r10669 p10670 => ?_)
                      subst p10670
                      refine pv_i (v := (ga u10299 7 3)) ((congrFun (hUu10667.2.1 7 rfl) _).trans rfl) ?_
                      refine lv_icmp_ge (tgt := 183) hx hb dX10_likely_81 (by decide) (fun c10671 => ?_) (fun c10671 => ?_)
                      · have c10671 := cLE (x := (ga u10299 7 3)) (y := y10664d) (X := ((ga u10299 7 3)).toInt) (Y := y10664d.toInt) rfl rfl c10671
                        refine lv_iload hx hb dX10_likely_183 (lv_at hl 1 rfl) ?_
                        have j205_10682 : ∀ (ls : Array Slot) (u10682 : St) (H : Heap) (locs : List Loc), Un [] [(12, 12), (18, 18)] [] u10667 u10682 → IM u10682 → Hd D (mw C A) (va_A (mw C A u) s.heap.size) s.heap u10682 H locs → lv_has ls 8 [(3, .int y10298d), (2, .int r12), (0, .ref (A 0)), (1, .int a0)] → W p l e (rmL 4 0 0) s m ar below meth c H locs 0 0 Q (F0 m 205 ls []) := by
                          intro ls u10682 H locs hUu10682 hI hH hl
                          obtain ⟨z10684, ez10684⟩ : ∃ z, z = y10298d + Int32.ofInt 1 := ⟨_, rfl⟩
                          have hz10684 : z10684.toInt = y10298d.toInt + 1 := by rw [ez10684]; exact tt_add rfl (by decide) (by omega) (by omega)
                          refine lv_iinc (v := z10684) (lv' := [(3, .int z10684), (2, .int r12), (0, .ref (A 0)), (1, .int a0)]) hx hb dX10_likely_205 hl (k := 0) rfl ez10684.symm (by decide) rfl (fun ls hl => ?_)
                          refine lv_goto (tgt := 56) hx hb dX10_likely_208 (by decide) ?_
                          exact ih56_10299 ls z10684 u10682 _ _ (by have q9 := (show z10684.toInt = (y10298d.toInt + 1) from hz10684); omega) (by have q9 := (show z10684.toInt = (y10298d.toInt + 1) from hz10684); omega) (by have q9 := (show z10684.toInt = (y10298d.toInt + 1) from hz10684); omega) (Un.tr (Un.tr hUu10299 hUu10667 rfl rfl rfl) hUu10682 rfl rfl rfl) hI hH hl
                        refine lv_if_eq (tgt := 205) hx hb dX10_likely_185 (by decide) (fun c10672 => ?_) (fun c10672 => ?_)
                        · have c10672 := cEQ (x := y10665d) (y := 0) (X := y10665d.toInt) (Y := 0) rfl (by decide) c10672
                          exact j205_10682 ls u10667 _ _ Un.rf hI hH (lv_sub hl [3, 4, 5, 6] rfl)
                        · have c10672 := cNE (x := y10665d) (y := 0) (X := y10665d.toInt) (Y := 0) rfl (by decide) c10672
                          refine lv_aload_n hx hb dX10_likely_188 rfl (lv_at hl 5 rfl) ?_
                          refine va_get (ci := 10) (v := .ref (A 18)) (C := RX10) (T := TX10) (N := 42) hx hb hts (fun w h => uc_in w (inX10 w h)) hown hK hH.1 0 (mwc0 C A u10667) rfl 38 (by decide) (hts _ (uc_in _ q_f1226)) (fun _ h9 => h9) rfl dX10_likely_189 ?_
                          refine lv_aload_n hx hb dX10_likely_192 rfl (lv_at hl 5 rfl) ?_
                          refine lv_iload_n hx hb dX10_likely_193 rfl (lv_at hl 6 rfl) ?_
                          refine lv_iload_n hx hb dX10_likely_194 rfl (lv_at hl 4 rfl) ?_
                          refine lv_iload_n hx hb dX10_likely_195 rfl (lv_at hl 3 rfl) ?_
                          refine cvI (n := 3) (As := [.int a0, .int r12, .int y10298d]) (rest := [.ref (A 18)]) ⟨hx, hb, hml, hown, hts⟩ uc_in (kX10_lastBy_0 l D C A u10667 hI a0 A0 ha0 r12 r12.toInt rfl y10298d y10298d.toInt rfl (by omega) (by omega) (HB.un (L := [(0, 0), (24, 24), (25, 25)]) (M := [(12, 12), (13, 13), (18, 18)]) (N := []) (HB.mk p13.2.2.1 p13.1 p13.2.1 g14 (by omega)) (Un.tr (Un.tr (Un.tr Un.rf hUu5367 rfl rfl rfl) hUu10299 rfl rfl rfl) hUu10667 rfl rfl rfl) rfl) _) q_m1841 q_n1843 q_p109 q_i11 q_c1844 hvX10_lastBy ⟨(Nat.le_of_ble_eq_true rfl), (Nat.le_of_ble_eq_true rfl)⟩ ⟨(Nat.le_of_ble_eq_true rfl), (Nat.le_of_ble_eq_true rfl)⟩ hK hH (fun q h => Or.inr h) Bl0 (fun _ _ _ => trivial) 10 0 rfl (mwc0 C A u10667) rfl hl.1 rfl (Nat.le_of_ble_eq_true rfl) dX10_likely_196 (fun r10686 u10685 H locs p10687 hH => ?_)
                          obtain ⟨hI, hUu10685, p10687⟩ := p10687
                          have p10687 : 0 ≤ r10686.toInt ∧ r10686.toInt ≤ 5 := p10687
                          refine lv_dup2_11 hx hb dX10_likely_199 rfl rfl ?_
                          refine va_iald hx hb hK hH.1 18 1 (mwc18 C A u10685) rfl (i_ix rfl (by omega) (by omega)) dX10_likely_200 ?_
                          refine p_any (fun z10688 => ?_)
                          refine lv_iload hx hb dX10_likely_201 (lv_at hl 2 rfl) ?_
                          refine lv_iadd hx hb dX10_likely_203 ?_
                          refine p_any (fun z10689 => ?_)
                          refine r_iast (j := 18) hx hb hK hH 18 1 (mwc18 C A u10685) rfl (i_ix rfl (by omega) (by omega)) (mwa18 C A u10685) dX10_likely_204 (fun u10690 eu10690 H locs hH => ?_)
                          have hI := hI.pa0 eu10690 (by decide) (by decide) (by decide)
                          exact j205_10682 ls u10690 _ _ (Un.sa (Un.tr Un.rf hUu10685 rfl rfl rfl) rfl eu10690) hI hH (lv_sub hl [3, 4, 5, 6] rfl)
                      · have c10671 := cNLE (x := (ga u10299 7 3)) (y := y10664d) (X := ((ga u10299 7 3)).toInt) (Y := y10664d.toInt) rfl rfl c10671
                        refine lv_iload_n hx hb dX10_likely_84 rfl (lv_at hl 4 rfl) ?_
                        refine lv_iload hx hb dX10_likely_85 (lv_at hl 0 rfl) ?_
                        refine csS (n := 2) (As := [.int r12, .int y10664d]) (rest := []) ⟨hx, hb, hml, hown, hts⟩ uc_in (kX10_isBit_0 l D C A u10667 hI r12 r12.toInt rfl y10664d y10664d.toInt rfl) q_m1489 q_s1490 q_i11 q_c1491 hvX10_isBit ⟨(Nat.le_of_ble_eq_true rfl), (Nat.le_of_ble_eq_true rfl)⟩ ⟨(Nat.le_of_ble_eq_true rfl), (Nat.le_of_ble_eq_true rfl)⟩ hK hH.1 rfl hl.1 rfl (Nat.le_of_ble_eq_true rfl) dX10_likely_87 (fun r10691 p10692 => ?_)
                        have p10692 : 0 ≤ r10691.toInt ∧ r10691.toInt ≤ 1 := by rcases p10692 with ⟨e9, -⟩ | ⟨e9, -⟩ <;> rw [e9] <;> decide
                        have j116_10717 : ∀ (ls : Array Slot) (y10698d : Int32), 0 ≤ y10698d.toInt → y10698d.toInt ≤ 1 → lv_has ls 8 [(6, .int y10664d), (5, .int y10665d), (4, .int y10666d), (3, .int y10298d), (2, .int r12), (0, .ref (A 0)), (1, .int a0)] → W p l e (rmL 4 0 0) s m ar below meth c H locs 0 0 Q (F0 m 116 ls [.int y10698d]) := by
                          intro ls y10698d ly10698d my10698d hl
                          refine lv_istore (lv' := [(7, .int y10698d), (6, .int y10664d), (5, .int y10665d), (4, .int y10666d), (3, .int y10298d), (2, .int r12), (0, .ref (A 0)), (1, .int a0)]) hx hb dX10_likely_116 hl (by decide) rfl (fun ls hl => ?_)
                          refine lv_iload hx hb dX10_likely_118 (lv_at hl 0 rfl) ?_
                          have j177_10737 : ∀ (ls : Array Slot) (y10734d : Int32) (y10735d : Int32), 0 ≤ y10735d.toInt → y10735d.toInt ≤ 1 → lv_has ls 8 [(4, .int y10734d), (6, .int y10664d), (5, .int y10735d), (3, .int y10298d), (2, .int r12), (0, .ref (A 0)), (1, .int a0)] → W p l e (rmL 4 0 0) s m ar below meth c H locs 0 0 Q (F0 m 177 ls []) := by
                            intro ls y10734d y10735d ly10735d my10735d hl
                            obtain ⟨z10739, ez10739⟩ : ∃ z, z = y10664d + Int32.ofInt 1 := ⟨_, rfl⟩
                            have hz10739 : z10739.toInt = y10664d.toInt + 1 := by rw [ez10739]; exact tt_add rfl (by decide) (by omega) (by omega)
                            refine lv_iinc (v := z10739) (lv' := [(6, .int z10739), (4, .int y10734d), (5, .int y10735d), (3, .int y10298d), (2, .int r12), (0, .ref (A 0)), (1, .int a0)]) hx hb dX10_likely_177 hl (k := 1) rfl ez10739.symm (by decide) rfl (fun ls hl => ?_)
                            refine lv_goto (tgt := 75) hx hb dX10_likely_180 (by decide) ?_
                            exact ih75_10667 ls z10739 y10735d y10734d u10667 _ _ (by have q9 := (show z10739.toInt = (y10664d.toInt + 1) from hz10739); omega) (by have q9 := (show z10739.toInt = (y10664d.toInt + 1) from hz10739); omega) (by omega) (by omega) (by have q9 := (show z10739.toInt = (y10664d.toInt + 1) from hz10739); omega) hUu10667 hI hH (lv_sub hl [0, 2, 1, 3, 4, 5, 6] rfl)
                          refine lv_if_ne (tgt := 145) hx hb dX10_likely_120 (by decide) (fun c10719 => ?_) (fun c10719 => ?_)
                          · have c10719 := cNE (x := y10698d) (y := 0) (X := y10698d.toInt) (Y := 0) rfl (by decide) c10719
                            refine lv_iload hx hb dX10_likely_145 (lv_at hl 3 rfl) ?_
                            refine lv_iload_n hx hb dX10_likely_147 rfl (lv_at hl 4 rfl) ?_
                            refine lv_iload hx hb dX10_likely_148 (lv_at hl 1 rfl) ?_
                            refine csS (n := 2) (As := [.int y10298d, .int y10664d]) (rest := [.int y10666d]) ⟨hx, hb, hml, hown, hts⟩ uc_in (kX10_isBit_0 l D C A u10667 hI y10298d y10298d.toInt rfl y10664d y10664d.toInt rfl) q_m1489 q_s1490 q_i11 q_c1491 hvX10_isBit ⟨(Nat.le_of_ble_eq_true rfl), (Nat.le_of_ble_eq_true rfl)⟩ ⟨(Nat.le_of_ble_eq_true rfl), (Nat.le_of_ble_eq_true rfl)⟩ hK hH.1 rfl hl.1 rfl (Nat.le_of_ble_eq_true rfl) dX10_likely_150 (fun r10740 p10741 => ?_)
                            have p10741 : 0 ≤ r10740.toInt ∧ r10740.toInt ≤ 1 := by rcases p10741 with ⟨e9, -⟩ | ⟨e9, -⟩ <;> rw [e9] <;> decide
                            have j174_10748 : ∀ (ls : Array Slot) (y10746d : Int32), 0 ≤ y10746d.toInt → y10746d.toInt ≤ 10 → lv_has ls 8 [(6, .int y10664d), (5, .int y10665d), (3, .int y10298d), (2, .int r12), (0, .ref (A 0)), (1, .int a0)] → W p l e (rmL 4 0 0) s m ar below meth c H locs 0 0 Q (F0 m 174 ls [.int y10746d, .int y10666d]) := by
                              intro ls y10746d ly10746d my10746d hl
                              refine lv_imul hx hb dX10_likely_174 ?_
                              refine p_any (fun z10750 => ?_)
                              refine lv_istore (lv' := [(4, .int z10750), (6, .int y10664d), (5, .int y10665d), (3, .int y10298d), (2, .int r12), (0, .ref (A 0)), (1, .int a0)]) hx hb dX10_likely_175 hl (by decide) rfl (fun ls hl => ?_)
                              exact j177_10737 ls z10750 y10665d (by omega) (by omega) hl
                            refine lv_if_eq (tgt := 165) hx hb dX10_likely_153 (by decide) (fun c10742 => ?_) (fun c10742 => ?_)
                            · have c10742 := cEQ (x := r10740) (y := 0) (X := r10740.toInt) (Y := 0) rfl (by decide) c10742
                              refine lv_bipush (v := 10) hx hb dX10_likely_165 (by decide) ?_
                              refine lv_aload_n hx hb dX10_likely_167 rfl (lv_at hl 6 rfl) ?_
                              refine va_get (ci := 10) (v := .ref (A 7)) (C := RX10) (T := TX10) (N := 42) hx hb hts (fun w h => uc_in w (inX10 w h)) hown hK hH.1 0 (mwc0 C A u10667) rfl 17 (by decide) (hts _ (uc_in _ q_f1205)) (fun _ h9 => h9) rfl dX10_likely_168 ?_
                              refine lv_iconst (v := 2) hx hb dX10_likely_171 (by decide) ?_
                              refine va_iald hx hb hK hH.1 7 1 (mwc7 C A u10667) rfl (i_ix (X := 2) (by decide) (by decide) (by decide)) dX10_likely_172 ?_
                              refine pv_i (v := (ga u10667 7 2)) rfl ?_
                              have b10751 : 0 ≤ ((ga u10667 7 2)).toInt ∧ ((ga u10667 7 2)).toInt ≤ 10 := hI.has 2
                              refine lv_isub hx hb dX10_likely_173 ?_
                              refine p_nm (tt_sub (X := 10) (Y := ((ga u10667 7 2)).toInt) (by decide) rfl (by omega) (by omega)) (fun z10752 hz10752 => ?_)
                              exact j174_10748 ls z10752 (by have q9 := (show z10752.toInt = (10 - ((ga u10667 7 2)).toInt) from hz10752); omega) (by have q9 := (show z10752.toInt = (10 - ((ga u10667 7 2)).toInt) from hz10752); omega) (lv_sub hl [1, 2, 4, 5, 6, 7] rfl)
                            · have c10742 := cNE (x := r10740) (y := 0) (X := r10740.toInt) (Y := 0) rfl (by decide) c10742
                              refine lv_aload_n hx hb dX10_likely_156 rfl (lv_at hl 6 rfl) ?_
                              refine va_get (ci := 10) (v := .ref (A 7)) (C := RX10) (T := TX10) (N := 42) hx hb hts (fun w h => uc_in w (inX10 w h)) hown hK hH.1 0 (mwc0 C A u10667) rfl 17 (by decide) (hts _ (uc_in _ q_f1205)) (fun _ h9 => h9) rfl dX10_likely_157 ?_
                              refine lv_iconst (v := 2) hx hb dX10_likely_160 (by decide) ?_
                              refine va_iald hx hb hK hH.1 7 1 (mwc7 C A u10667) rfl (i_ix (X := 2) (by decide) (by decide) (by decide)) dX10_likely_161 ?_
                              refine pv_i (v := (ga u10667 7 2)) rfl ?_
                              have b10753 : 0 ≤ ((ga u10667 7 2)).toInt ∧ ((ga u10667 7 2)).toInt ≤ 10 := hI.has 2
                              refine lv_goto (tgt := 174) hx hb dX10_likely_162 (by decide) ?_
                              exact j174_10748 ls (ga u10667 7 2) (by omega) (by omega) (lv_sub hl [1, 2, 4, 5, 6, 7] rfl)
                          · have c10719 := cEQ (x := y10698d) (y := 0) (X := y10698d.toInt) (Y := 0) rfl (by decide) c10719
                            refine lv_iload hx hb dX10_likely_123 (lv_at hl 2 rfl) ?_
                            refine lv_iload_n hx hb dX10_likely_125 rfl (lv_at hl 4 rfl) ?_
                            refine lv_iload hx hb dX10_likely_126 (lv_at hl 1 rfl) ?_
                            refine csS (n := 2) (As := [.int y10298d, .int y10664d]) (rest := [.int y10665d]) ⟨hx, hb, hml, hown, hts⟩ uc_in (kX10_isBit_0 l D C A u10667 hI y10298d y10298d.toInt rfl y10664d y10664d.toInt rfl) q_m1489 q_s1490 q_i11 q_c1491 hvX10_isBit ⟨(Nat.le_of_ble_eq_true rfl), (Nat.le_of_ble_eq_true rfl)⟩ ⟨(Nat.le_of_ble_eq_true rfl), (Nat.le_of_ble_eq_true rfl)⟩ hK hH.1 rfl hl.1 rfl (Nat.le_of_ble_eq_true rfl) dX10_likely_128 (fun r10754 p10755 => ?_)
                            have p10755 : 0 ≤ r10754.toInt ∧ r10754.toInt ≤ 1 := by rcases p10755 with ⟨e9, -⟩ | ⟨e9, -⟩ <;> rw [e9] <;> decide
                            have j139_10760 : ∀ (ls : Array Slot) (y10757d : Int32), 0 ≤ y10757d.toInt → y10757d.toInt ≤ 1 → lv_has ls 8 [(6, .int y10664d), (4, .int y10666d), (3, .int y10298d), (2, .int r12), (0, .ref (A 0)), (1, .int a0)] → W p l e (rmL 4 0 0) s m ar below meth c H locs 0 0 Q (F0 m 139 ls [.int y10757d, .int y10665d]) := by
                              intro ls y10757d ly10757d my10757d hl
                              refine lv_iand hx hb dX10_likely_139 ?_
                              have gz10762 := tt_andR (x := y10665d) (y := y10757d) (Y := y10757d.toInt) rfl (by omega)
                              refine p_bd (P := fun q => 0 ≤ q ∧ q ≤ 1) ⟨by omega, by omega⟩ (fun z10763 bz10763 => ?_)
                              have bz10763 : 0 ≤ z10763.toInt ∧ z10763.toInt ≤ 1 := bz10763
                              refine lv_istore (lv' := [(5, .int z10763), (6, .int y10664d), (4, .int y10666d), (3, .int y10298d), (2, .int r12), (0, .ref (A 0)), (1, .int a0)]) hx hb dX10_likely_140 hl (by decide) rfl (fun ls hl => ?_)
                              refine lv_goto (tgt := 177) hx hb dX10_likely_142 (by decide) ?_
                              exact j177_10737 ls y10666d z10763 (by omega) (by omega) (lv_sub hl [2, 1, 0, 3, 4, 5, 6] rfl)
                            refine lv_if_ne (tgt := 138) hx hb dX10_likely_131 (by decide) (fun c10756 => ?_) (fun c10756 => ?_)
                            · have c10756 := cNE (x := r10754) (y := 0) (X := r10754.toInt) (Y := 0) rfl (by decide) c10756
                              refine lv_iconst (v := 0) hx hb dX10_likely_138 (by decide) ?_
                              exact j139_10760 ls 0 (by decide) (by decide) (lv_sub hl [1, 3, 4, 5, 6, 7] rfl)
                            · have c10756 := cEQ (x := r10754) (y := 0) (X := r10754.toInt) (Y := 0) rfl (by decide) c10756
                              refine lv_iconst (v := 1) hx hb dX10_likely_134 (by decide) ?_
                              refine lv_goto (tgt := 139) hx hb dX10_likely_135 (by decide) ?_
                              exact j139_10760 ls 1 (by decide) (by decide) (lv_sub hl [1, 3, 4, 5, 6, 7] rfl)
                        have j115_10764 : ∀ (ls : Array Slot), lv_has ls 8 [(6, .int y10664d), (5, .int y10665d), (4, .int y10666d), (3, .int y10298d), (2, .int r12), (0, .ref (A 0)), (1, .int a0)] → W p l e (rmL 4 0 0) s m ar below meth c H locs 0 0 Q (F0 m 115 ls []) := by
                          intro ls hl
                          refine lv_iconst (v := 0) hx hb dX10_likely_115 (by decide) ?_
                          exact j116_10717 ls 0 (by decide) (by decide) hl
                        refine lv_if_eq (tgt := 115) hx hb dX10_likely_90 (by decide) (fun c10693 => ?_) (fun c10693 => ?_)
                        · have c10693 := cEQ (x := r10691) (y := 0) (X := r10691.toInt) (Y := 0) rfl (by decide) c10693
                          exact j115_10764 ls hl
                        · have c10693 := cNE (x := r10691) (y := 0) (X := r10691.toInt) (Y := 0) rfl (by decide) c10693
                          refine lv_aload_n hx hb dX10_likely_93 rfl (lv_at hl 5 rfl) ?_
                          refine va_get (ci := 10) (v := .ref (A 12)) (C := RX10) (T := TX10) (N := 42) hx hb hts (fun w h => uc_in w (inX10 w h)) hown hK hH.1 0 (mwc0 C A u10667) rfl 22 (by decide) (hts _ (uc_in _ q_f1210)) (fun _ h9 => h9) rfl dX10_likely_94 ?_
                          refine lv_bipush (v := 6) hx hb dX10_likely_97 (by decide) ?_
                          refine lv_iload_n hx hb dX10_likely_99 rfl (lv_at hl 6 rfl) ?_
                          refine lv_imul hx hb dX10_likely_100 ?_
                          refine p_nm (tt_mul (X := 6) (Y := A0) (by decide) ha0 (by omega) (by omega)) (fun z10766 hz10766 => ?_)
                          refine lv_iload hx hb dX10_likely_101 (lv_at hl 0 rfl) ?_
                          refine lv_iadd hx hb dX10_likely_103 ?_
                          refine p_nm (tt_add (X := (6 * A0)) (Y := y10664d.toInt) hz10766 rfl (by omega) (by omega)) (fun z10767 hz10767 => ?_)
                          refine va_iald hx hb hK hH.1 12 1 (mwc12 C A u10667) rfl (i_ix hz10767 (by omega) (by omega)) dX10_likely_104 ?_
                          refine p_any (fun z10768 => ?_)
                          refine lv_sipush (v := 10000) hx hb dX10_likely_105 (by decide) ?_
                          refine lv_icmp_eq (tgt := 115) hx hb dX10_likely_108 (by decide) (fun c10769 => ?_) (fun c10769 => ?_)
                          · have c10769 := cEQ (x := z10768) (y := 10000) (X := z10768.toInt) (Y := 10000) rfl (by decide) c10769
                            exact j115_10764 ls hl
                          · refine lv_iconst (v := 1) hx hb dX10_likely_111 (by decide) ?_
                            refine lv_goto (tgt := 116) hx hb dX10_likely_112 (by decide) ?_
                            exact j116_10717 ls 1 (by decide) (by decide) hl
                  exact lp75_10667 7 ls 0 1 1 u10299 _ _ (by decide) (by decide) (by decide) (by decide) (by have q9 : (0 : Int32).toInt = 0 := (by decide); omega) Un.rf hI hH hl
            exact lp56_10299 65 ls 0 u5367 _ _ (by decide) (by decide) (by have q9 : (0 : Int32).toInt = 0 := (by decide); omega) Un.rf hI hH hl
          · have c5369 := cNLE (x := 6) (y := y5366d) (X := 6) (Y := y5366d.toInt) (by decide) rfl c5369
            refine lv_aload_n hx hb dX10_likely_41 rfl (lv_at hl 2 rfl) ?_
            refine va_get (ci := 10) (v := .ref (A 18)) (C := RX10) (T := TX10) (N := 42) hx hb hts (fun w h => uc_in w (inX10 w h)) hown hK hH.1 0 (mwc0 C A u5367) rfl 38 (by decide) (hts _ (uc_in _ q_f1226)) (fun _ h9 => h9) rfl dX10_likely_42 ?_
            refine lv_iload_n hx hb dX10_likely_45 rfl (lv_at hl 0 rfl) ?_
            refine lv_iconst (v := 0) hx hb dX10_likely_46 (by decide) ?_
            refine r_iast (j := 18) hx hb hK hH 18 1 (mwc18 C A u5367) rfl (i_ix rfl (by omega) (by omega)) (mwa18 C A u5367) dX10_likely_47 (fun u10770 eu10770 H locs hH => ?_)
            have hI := hI.pa0 eu10770 (by decide) (by decide) (by decide)
            obtain ⟨z10771, ez10771⟩ : ∃ z, z = y5366d + Int32.ofInt 1 := ⟨_, rfl⟩
            have hz10771 : z10771.toInt = y5366d.toInt + 1 := by rw [ez10771]; exact tt_add rfl (by decide) (by omega) (by omega)
            refine lv_iinc (v := z10771) (lv' := [(3, .int z10771), (2, .int r12), (0, .ref (A 0)), (1, .int a0)]) hx hb dX10_likely_48 hl (k := 0) rfl ez10771.symm (by decide) rfl (fun ls hl => ?_)
            refine lv_goto (tgt := 35) hx hb dX10_likely_51 (by decide) ?_
            exact ih35_5367 ls z10771 u10770 _ _ (by have q9 := (show z10771.toInt = (y5366d.toInt + 1) from hz10771); omega) (by have q9 := (show z10771.toInt = (y5366d.toInt + 1) from hz10771); omega) (by have q9 := (show z10771.toInt = (y5366d.toInt + 1) from hz10771); omega) (Un.sa hUu5367 rfl eu10770) hI hH hl
      exact lp35_5367 7 ls 0 u9 _ _ (by decide) (by decide) (by have q9 : (0 : Int32).toInt = 0 := (by decide); omega) Un.rf hI hH hl
    · have c15 := cEQ (x := r12) (y := 0) (X := r12.toInt) (Y := 0) rfl (by decide) c15
      refine lv_iconst (v := (-1)) hx hb dX10_likely_31 (by decide) ?_
      exact hret _ _ _ _ ((-1) : Int32) _ dX10_likely_32 rfl ⟨hI, (Un.tr (Un.si Un.rf rfl eu1) hUu9 rfl rfl rfl), ⟨by decide, by decide⟩⟩ hH
  · subst e9
    refine lv_if_ne (tgt := 17) hx hb dX10_likely_11 (by decide) (fun c10772 => absurd c10772 (by decide)) (fun c10772 => ?_)
    refine lv_bipush (v := (-2)) hx hb dX10_likely_14 (by decide) ?_
    exact hret _ _ _ _ ((-2) : Int32) _ dX10_likely_16 rfl ⟨hI, (Un.si Un.rf rfl eu1), ⟨by decide, by decide⟩⟩ hH
