set_option maxHeartbeats 4000000 in
set_option maxRecDepth 100000 in
theorem kX6_expect_4 (l : Launch) (D : va_G) (C : Nat → ClassId) (A : Nat → Nat) (u : St) (hI : IC u) (adK adV : Nat → Nat) (sz : Nat) : MetV l yX6_expect cX6_expect 2 6 [.ref (A 1), .ref (adK 10)] D (tyl C) (cw C A) (XS adK adV) u sz (fun u' => IC u' ∧ Un [(2, 2), (3, 3), (4, 4), (5, 5), (6, 6), (7, 7)] [] [] u u' ∧ True) := by
  refine mV (by decide) (Nat.le_of_ble_eq_true rfl) ?_
  intro p e s m below meth c ls ar Q hx hb hml hown hts hK hH hX hl hret
  have hown : s.vm.findClass RX6 = some m.cls := hown
  have hl : lv_has ls 2 [(0, .ref (A 1)), (1, .ref (adK 10))] := hl
  refine lv_aload_n hx hb dX6_expect_0 rfl (lv_at hl 0 rfl) ?_
  refine lv_aload_n hx hb dX6_expect_1 rfl (lv_at hl 1 rfl) ?_
  refine cvI (n := 1) (As := [.ref (adK 10)]) (rest := []) ⟨hx, hb, hml, hown, hts⟩ uc_in (kX6_isWord_8 l D C A u hI  adK adV _) q_m471 q_n473 q_p4 q_i2 q_c474 hvX6_isWord ⟨(Nat.le_of_ble_eq_true rfl), (Nat.le_of_ble_eq_true rfl)⟩ ⟨(Nat.le_of_ble_eq_true rfl), (Nat.le_of_ble_eq_true rfl)⟩ hK hH (fun q h => Or.inr h) BlS (fun U hU hW => hX.at hH hW hU) 6 1 rfl (cwc1 C A u) rfl hl.1 rfl (Nat.le_of_ble_eq_true rfl) dX6_expect_2 (fun r2 u1 H locs p3 hH => ?_)
  obtain ⟨hI, hUu1, p3⟩ := p3
  have p3 : 0 ≤ r2.toInt ∧ r2.toInt ≤ 1 := p3
  refine lv_if_ne (tgt := 13) hx hb dX6_expect_5 (by decide) (fun c4 => ?_) (fun c4 => ?_)
  · have c4 := cNE (x := r2) (y := 0) (X := r2.toInt) (Y := 0) rfl (by decide) c4
    refine lv_aload_n hx hb dX6_expect_13 rfl (lv_at hl 0 rfl) ?_
    refine cvU (n := 0) (As := []) (rest := []) ⟨hx, hb, hml, hown, hts⟩ uc_in (kX6_step_0 l D C A u1 hI  _) q_m444 q_n446 q_p0 q_i2 q_c447 hvX6_step ⟨(Nat.le_of_ble_eq_true rfl), (Nat.le_of_ble_eq_true rfl)⟩ ⟨(Nat.le_of_ble_eq_true rfl), (Nat.le_of_ble_eq_true rfl)⟩ hK hH (fun q h => Or.inr h) Bl0 (fun _ _ _ => trivial) 6 1 rfl (cwc1 C A u1) rfl hl.1 rfl (Nat.le_of_ble_eq_true rfl) dX6_expect_14 (fun u5 H locs p7 hH => ?_)
    obtain ⟨hI, hUu5, p7⟩ := p7
    exact hret _ _ _ _ _ dX6_expect_17 ⟨hI, (Un.tr (Un.tr Un.rf hUu1 rfl rfl rfl) hUu5 rfl rfl rfl), trivial⟩ hH
  · have c4 := cEQ (x := r2) (y := 0) (X := r2.toInt) (Y := 0) rfl (by decide) c4
    refine lv_aload_n hx hb dX6_expect_8 rfl (lv_at hl 0 rfl) ?_
    refine lv_iconst (v := 1) hx hb dX6_expect_9 (by decide) ?_
    refine cvU (n := 1) (As := [.int 1]) (rest := []) ⟨hx, hb, hml, hown, hts⟩ uc_in (kX6_blame_0 l D C A u1 hI  _) q_m523 q_n525 q_p5 q_i2 q_c526 hvX6_blame ⟨(Nat.le_of_ble_eq_true rfl), (Nat.le_of_ble_eq_true rfl)⟩ ⟨(Nat.le_of_ble_eq_true rfl), (Nat.le_of_ble_eq_true rfl)⟩ hK hH (fun q h => Or.inr h) Bl0 (fun _ _ _ => trivial) 6 1 rfl (cwc1 C A u1) rfl hl.1 rfl (Nat.le_of_ble_eq_true rfl) dX6_expect_10 (fun u8 H locs p10 hH => ?_)
    obtain ⟨hI, hUu8, p10⟩ := p10
    refine lv_aload_n hx hb dX6_expect_13 rfl (lv_at hl 0 rfl) ?_
    refine cvU (n := 0) (As := []) (rest := []) ⟨hx, hb, hml, hown, hts⟩ uc_in (kX6_step_0 l D C A u8 hI  _) q_m444 q_n446 q_p0 q_i2 q_c447 hvX6_step ⟨(Nat.le_of_ble_eq_true rfl), (Nat.le_of_ble_eq_true rfl)⟩ ⟨(Nat.le_of_ble_eq_true rfl), (Nat.le_of_ble_eq_true rfl)⟩ hK hH (fun q h => Or.inr h) Bl0 (fun _ _ _ => trivial) 6 1 rfl (cwc1 C A u8) rfl hl.1 rfl (Nat.le_of_ble_eq_true rfl) dX6_expect_14 (fun u11 H locs p13 hH => ?_)
    obtain ⟨hI, hUu11, p13⟩ := p13
    exact hret _ _ _ _ _ dX6_expect_17 ⟨hI, (Un.tr (Un.tr (Un.tr Un.rf hUu1 rfl rfl rfl) hUu8 rfl rfl rfl) hUu11 rfl rfl rfl), trivial⟩ hH
set_option maxHeartbeats 4000000 in
set_option maxRecDepth 100000 in
theorem kX6_isWord_9 (l : Launch) (D : va_G) (C : Nat → ClassId) (A : Nat → Nat) (u : St) (hI : IC u) (adK adV : Nat → Nat) (sz : Nat) : MetI l yX6_isWord cX6_isWord 3 (some .boolean) 5 [.ref (A 1), .ref (adK 11)] D (tyl C) (cw C A) (XS adK adV) u sz (fun r u' => IC u' ∧ Un [] [] [] u u' ∧ (0 ≤ r.toInt ∧ r.toInt ≤ 1)) := by
  refine mI (by decide) (Nat.le_of_ble_eq_true rfl) ?_
  intro p e s m below meth c ls ar Q hx hb hml hown hts hK hH hX hl hret
  have hown : s.vm.findClass RX6 = some m.cls := hown
  have hl : lv_has ls 3 [(0, .ref (A 1)), (1, .ref (adK 11))] := hl
  refine lv_aload_n hx hb dX6_isWord_0 rfl (lv_at hl 0 rfl) ?_
  refine va_get (ci := 6) (v := .int (gi u 6)) (C := RX6) (T := TX6) (N := 8) hx hb hts (fun w h => uc_in w (inX6 w h)) hown hK hH.1 1 (cwc1 C A u) rfl 6 (by decide) (hts _ (uc_in _ q_f42)) (fun _ h9 => h9) rfl dX6_isWord_1 ?_
  refine lv_iconst (v := 2) hx hb dX6_isWord_4 (by decide) ?_
  refine lv_icmp_ne (tgt := 24) hx hb dX6_isWord_5 (by decide) (fun c1 => ?_) (fun c1 => ?_)
  · refine lv_iconst (v := 0) hx hb dX6_isWord_24 (by decide) ?_
    exact hret _ _ _ _ (0 : Int32) _ dX6_isWord_25 rfl ⟨hI, Un.rf, ⟨by decide, by decide⟩⟩ hH
  · have c1 := cEQ (x := (gi u 6)) (y := 2) (X := ((gi u 6)).toInt) (Y := 2) rfl (by decide) c1
    refine lv_aload_n hx hb dX6_isWord_8 rfl (lv_at hl 0 rfl) ?_
    refine va_get (ci := 6) (v := .int (gi u 5)) (C := RX6) (T := TX6) (N := 8) hx hb hts (fun w h => uc_in w (inX6 w h)) hown hK hH.1 1 (cwc1 C A u) rfl 5 (by decide) (hts _ (uc_in _ q_f41)) (fun _ h9 => h9) rfl dX6_isWord_9 ?_
    have b2 := hI.b5
    refine lv_aload_n hx hb dX6_isWord_12 rfl (lv_at hl 0 rfl) ?_
    refine va_get (ci := 6) (v := .int (gi u 4)) (C := RX6) (T := TX6) (N := 8) hx hb hts (fun w h => uc_in w (inX6 w h)) hown hK hH.1 1 (cwc1 C A u) rfl 4 (by decide) (hts _ (uc_in _ q_f40)) (fun _ h9 => h9) rfl dX6_isWord_13 ?_
    have b3 := hI.b4
    refine lv_isub hx hb dX6_isWord_16 ?_
    refine p_nm (tt_sub (X := ((gi u 5)).toInt) (Y := ((gi u 4)).toInt) rfl rfl (by omega) (by omega)) (fun z4 hz4 => ?_)
    refine lv_aload_n hx hb dX6_isWord_17 rfl (lv_at hl 1 rfl) ?_
    refine cvT (n := 0) (As := []) (rest := [.int z4]) ⟨hx, hb, hml, hown, hts⟩ uc_in (kT_length l adK adV 11 (by decide)) blT q_m475 q_n476 q_e477 q_i13 q_c478 hvJ0_length_8abf5 ⟨(Nat.le_of_ble_eq_true rfl), (Nat.le_of_ble_eq_true rfl)⟩ ⟨(Nat.le_of_ble_eq_true rfl), (Nat.le_of_ble_eq_true rfl)⟩ (vk_recv hX.1 (show 11 < 14 by decide) hH.2.2) (fun U hU hW => hX.now hH hW hU) rfl hl.1 rfl (Nat.le_of_ble_eq_true rfl) dX6_isWord_18 (fun r5 p6 => ?_)
    have p6 : r5 = 4 := p6.trans (by decide)
    subst p6
    refine lv_icmp_eq (tgt := 26) hx hb dX6_isWord_21 (by decide) (fun c7 => ?_) (fun c7 => ?_)
    · have c7 := cEQ (x := z4) (y := 4) (X := (((gi u 5)).toInt - ((gi u 4)).toInt)) (Y := 4) hz4 (by decide) c7
      refine lv_iconst (v := 0) hx hb dX6_isWord_26 (by decide) ?_
      refine lv_istore_n (lv' := [(2, .int 0), (0, .ref (A 1)), (1, .ref (adK 11))]) hx hb dX6_isWord_27 rfl hl (by decide) rfl (fun ls hl => ?_)
      have lp28_56 : ∀ (n28 : Nat) (ls : Array Slot) (y56d : Int32), 0 ≤ y56d.toInt → y56d.toInt ≤ 4 → 4 - y56d.toInt < (n28 : Int) → lv_has ls 3 [(2, .int y56d), (0, .ref (A 1)), (1, .ref (adK 11))] → W p l e (rmL 5 0 0) s m ar below meth c s.heap [] 0 0 Q (F0 m 28 ls []) := by
        intro n28
        induction n28 with
        | zero => intro ls y56d ly56d my56d hmun28 hl; exfalso; omega
        | succ n28 ih28_56 =>
          intro ls y56d ly56d my56d hmun28 hl
          refine lv_iload_n hx hb dX6_isWord_28 rfl (lv_at hl 0 rfl) ?_
          refine lv_aload_n hx hb dX6_isWord_29 rfl (lv_at hl 2 rfl) ?_
          refine cvT (n := 0) (As := []) (rest := [.int y56d]) ⟨hx, hb, hml, hown, hts⟩ uc_in (kT_length l adK adV 11 (by decide)) blT q_m475 q_n476 q_e477 q_i13 q_c478 hvJ0_length_8abf5 ⟨(Nat.le_of_ble_eq_true rfl), (Nat.le_of_ble_eq_true rfl)⟩ ⟨(Nat.le_of_ble_eq_true rfl), (Nat.le_of_ble_eq_true rfl)⟩ (vk_recv hX.1 (show 11 < 14 by decide) hH.2.2) (fun U hU hW => hX.now hH hW hU) rfl hl.1 rfl (Nat.le_of_ble_eq_true rfl) dX6_isWord_30 (fun r58 p59 => ?_)
          have p59 : r58 = 4 := p59.trans (by decide)
          subst p59
          refine lv_icmp_ge (tgt := 63) hx hb dX6_isWord_33 (by decide) (fun c60 => ?_) (fun c60 => ?_)
          · have c60 := cLE (x := 4) (y := y56d) (X := 4) (Y := y56d.toInt) (by decide) rfl c60
            refine lv_iconst (v := 1) hx hb dX6_isWord_63 (by decide) ?_
            exact hret _ _ _ _ (1 : Int32) _ dX6_isWord_64 rfl ⟨hI, Un.rf, ⟨by decide, by decide⟩⟩ hH
          · have c60 := cNLE (x := 4) (y := y56d) (X := 4) (Y := y56d.toInt) (by decide) rfl c60
            refine lv_aload_n hx hb dX6_isWord_36 rfl (lv_at hl 1 rfl) ?_
            refine va_get (ci := 6) (v := .ref (A 22)) (C := RX6) (T := TX6) (N := 8) hx hb hts (fun w h => uc_in w (inX6 w h)) hown hK hH.1 1 (cwc1 C A u) rfl 0 (by decide) (hts _ (uc_in _ q_f33)) (fun _ h9 => h9) rfl dX6_isWord_37 ?_
            refine lv_aload_n hx hb dX6_isWord_40 rfl (lv_at hl 1 rfl) ?_
            refine va_get (ci := 6) (v := .int (gi u 4)) (C := RX6) (T := TX6) (N := 8) hx hb hts (fun w h => uc_in w (inX6 w h)) hown hK hH.1 1 (cwc1 C A u) rfl 4 (by decide) (hts _ (uc_in _ q_f40)) (fun _ h9 => h9) rfl dX6_isWord_41 ?_
            refine lv_iload_n hx hb dX6_isWord_44 rfl (lv_at hl 0 rfl) ?_
            refine lv_iadd hx hb dX6_isWord_45 ?_
            refine p_nm (tt_add (X := ((gi u 4)).toInt) (Y := y56d.toInt) rfl rfl (by omega) (by omega)) (fun z61 hz61 => ?_)
            refine va_bald hx hb hK hH.1 22 0 (cwc22 C A u) rfl (i_ix hz61 (by omega) (by omega)) dX6_isWord_46 ?_
            refine p_any (fun z62 => ?_)
            refine lv_aload_n hx hb dX6_isWord_47 rfl (lv_at hl 2 rfl) ?_
            refine lv_iload_n hx hb dX6_isWord_48 rfl (lv_at hl 0 rfl) ?_
            refine cvT (n := 1) (As := [.int y56d]) (rest := [.int z62]) ⟨hx, hb, hml, hown, hts⟩ uc_in (kT_charAt l adK adV 11 (by decide) y56d (show vp_in y56d 4 from i_ix rfl (by omega) (by omega))) blT q_m485 q_n486 q_e487 q_i13 q_c488 hvJ0_charAt_5068e ⟨(Nat.le_of_ble_eq_true rfl), (Nat.le_of_ble_eq_true rfl)⟩ ⟨(Nat.le_of_ble_eq_true rfl), (Nat.le_of_ble_eq_true rfl)⟩ (vk_recv hX.1 (show 11 < 14 by decide) hH.2.2) (fun U hU hW => hX.now hH hW hU) rfl hl.1 rfl (Nat.le_of_ble_eq_true rfl) dX6_isWord_49 (fun r63 _ => ?_)
            refine lv_icmp_eq (tgt := 57) hx hb dX6_isWord_52 (by decide) (fun c64 => ?_) (fun c64 => ?_)
            · have c64 := cEQ (x := z62) (y := r63) (X := z62.toInt) (Y := r63.toInt) rfl rfl c64
              obtain ⟨z65, ez65⟩ : ∃ z, z = y56d + Int32.ofInt 1 := ⟨_, rfl⟩
              have hz65 : z65.toInt = y56d.toInt + 1 := by rw [ez65]; exact tt_add rfl (by decide) (by omega) (by omega)
              refine lv_iinc (v := z65) (lv' := [(2, .int z65), (0, .ref (A 1)), (1, .ref (adK 11))]) hx hb dX6_isWord_57 hl (k := 0) rfl ez65.symm (by decide) rfl (fun ls hl => ?_)
              refine lv_goto (tgt := 28) hx hb dX6_isWord_60 (by decide) ?_
              exact ih28_56 ls z65 (by have q9 := (show z65.toInt = (y56d.toInt + 1) from hz65); omega) (by have q9 := (show z65.toInt = (y56d.toInt + 1) from hz65); omega) (by have q9 := (show z65.toInt = (y56d.toInt + 1) from hz65); omega) hl
            · refine lv_iconst (v := 0) hx hb dX6_isWord_55 (by decide) ?_
              exact hret _ _ _ _ (0 : Int32) _ dX6_isWord_56 rfl ⟨hI, Un.rf, ⟨by decide, by decide⟩⟩ hH
      exact lp28_56 5 ls 0 (by decide) (by decide) (by have q9 : (0 : Int32).toInt = 0 := (by decide); omega) hl
    · refine lv_iconst (v := 0) hx hb dX6_isWord_24 (by decide) ?_
      exact hret _ _ _ _ (0 : Int32) _ dX6_isWord_25 rfl ⟨hI, Un.rf, ⟨by decide, by decide⟩⟩ hH
set_option maxHeartbeats 4000000 in
set_option maxRecDepth 100000 in
theorem kX6_readClock_0 (l : Launch) (D : va_G) (C : Nat → ClassId) (A : Nat → Nat) (u : St) (hI : IC u) (adK adV : Nat → Nat) (sz : Nat) : MetV l yX6_readClock cX6_readClock 3 7 [.ref (A 1), .ref (A 3)] D (tyl C) (cw C A) (XS adK adV) u sz (fun u' => IC u' ∧ Un [(2, 2), (3, 3), (4, 4), (5, 5), (6, 6), (7, 7), (20, 20)] [(57, 57), (58, 58), (59, 59), (60, 60), (61, 61)] [] u u' ∧ True) := by
  refine mV (by decide) (Nat.le_of_ble_eq_true rfl) ?_
  intro p e s m below meth c ls ar Q hx hb hml hown hts hK hH hX hl hret
  have hown : s.vm.findClass RX6 = some m.cls := hown
  have hl : lv_has ls 3 [(0, .ref (A 1)), (1, .ref (A 3))] := hl
  refine lv_aload_n hx hb dX6_readClock_0 rfl (lv_at hl 1 rfl) ?_
  refine va_get (ci := 7) (v := .int (gi u 20)) (C := RX7) (T := TX7) (N := 16) hx hb hts (fun w h => uc_in w (inX7 w h)) hown hK hH.1 3 (cwc3 C A u) rfl 4 (by decide) (hts _ (uc_in _ q_f83)) (fun _ h9 => h9) rfl dX6_readClock_1 ?_
  have b1 := hI.b20
  refine lv_istore_n (lv' := [(2, .int (gi u 20)), (0, .ref (A 1)), (1, .ref (A 3))]) hx hb dX6_readClock_4 rfl hl (by decide) rfl (fun ls hl => ?_)
  refine lv_iload_n hx hb dX6_readClock_5 rfl (lv_at hl 0 rfl) ?_
  refine lv_bipush (v := 6) hx hb dX6_readClock_6 (by decide) ?_
  refine lv_icmp_lt (tgt := 17) hx hb dX6_readClock_8 (by decide) (fun c2 => ?_) (fun c2 => ?_)
  · have c2 := cLT (x := (gi u 20)) (y := 6) (X := ((gi u 20)).toInt) (Y := 6) rfl (by decide) c2
    refine lv_aload_n hx hb dX6_readClock_17 rfl (lv_at hl 1 rfl) ?_
    refine va_ldcS hx hb hown (show vk_R RX6 49 "clock" (adK 4) s from hX.2.1 4 (by decide)) dX6_readClock_18 ?_
    refine cvU (n := 1) (As := [.ref (adK 4)]) (rest := []) ⟨hx, hb, hml, hown, hts⟩ uc_in (kX6_expect_2 l D C A u hI  adK adV _) q_m467 q_n469 q_p3 q_i2 q_c470 hvX6_expect ⟨(Nat.le_of_ble_eq_true rfl), (Nat.le_of_ble_eq_true rfl)⟩ ⟨(Nat.le_of_ble_eq_true rfl), (Nat.le_of_ble_eq_true rfl)⟩ hK hH (fun q h => Or.inr h) BlS (fun U hU hW => hX.at hH hW hU) 6 1 rfl (cwc1 C A u) rfl hl.1 rfl (Nat.le_of_ble_eq_true rfl) dX6_readClock_20 (fun u3 H locs p5 hH => ?_)
    obtain ⟨hI, hUu3, p5⟩ := p5
    refine lv_aload_n hx hb dX6_readClock_23 rfl (lv_at hl 1 rfl) ?_
    refine va_ldcS hx hb hown (show vk_R RX6 92 "at" (adK 5) s from hX.2.1 5 (by decide)) dX6_readClock_24 ?_
    refine cvU (n := 1) (As := [.ref (adK 5)]) (rest := []) ⟨hx, hb, hml, hown, hts⟩ uc_in (kX6_expect_3 l D C A u3 hI  adK adV _) q_m467 q_n469 q_p3 q_i2 q_c470 hvX6_expect ⟨(Nat.le_of_ble_eq_true rfl), (Nat.le_of_ble_eq_true rfl)⟩ ⟨(Nat.le_of_ble_eq_true rfl), (Nat.le_of_ble_eq_true rfl)⟩ hK hH (fun q h => Or.inr h) BlS (fun U hU hW => hX.at hH hW hU) 6 1 rfl (cwc1 C A u3) rfl hl.1 rfl (Nat.le_of_ble_eq_true rfl) dX6_readClock_26 (fun u6 H locs p8 hH => ?_)
    obtain ⟨hI, hUu6, p8⟩ := p8
    refine lv_aload_n hx hb dX6_readClock_29 rfl (lv_at hl 2 rfl) ?_
    refine va_get (ci := 7) (v := .ref (A 57)) (C := RX7) (T := TX7) (N := 16) hx hb hts (fun w h => uc_in w (inX7 w h)) hown hK hH.1 3 (cwc3 C A u6) rfl 8 (by decide) (hts _ (uc_in _ q_f97)) (fun _ h9 => h9) rfl dX6_readClock_30 ?_
    refine lv_iload_n hx hb dX6_readClock_33 rfl (lv_at hl 0 rfl) ?_
    refine lv_aload_n hx hb dX6_readClock_34 rfl (lv_at hl 1 rfl) ?_
    refine lv_iconst (v := 0) hx hb dX6_readClock_35 (by decide) ?_
    refine lv_bipush (v := 9) hx hb dX6_readClock_36 (by decide) ?_
    refine cvI (n := 2) (As := [.int 0, .int 9]) (rest := [.int (gi u 20), .ref (A 57)]) ⟨hx, hb, hml, hown, hts⟩ uc_in (kX6_numeral_0 l D C A u6 hI (0) 0 (by decide) (9) 9 (by decide) _) q_m528 q_n530 q_p6 q_i2 q_c531 hvX6_numeral ⟨(Nat.le_of_ble_eq_true rfl), (Nat.le_of_ble_eq_true rfl)⟩ ⟨(Nat.le_of_ble_eq_true rfl), (Nat.le_of_ble_eq_true rfl)⟩ hK hH (fun q h => Or.inr h) Bl0 (fun _ _ _ => trivial) 6 1 rfl (cwc1 C A u6) rfl hl.1 rfl (Nat.le_of_ble_eq_true rfl) dX6_readClock_38 (fun r10 u9 H locs p11 hH => ?_)
    obtain ⟨hI, hUu9, p11⟩ := p11
    refine r_iast (j := 57) hx hb hK hH 57 1 (cwc57 C A u9) rfl (i_ix rfl (by omega) (by omega)) (cwa57 C A u9) dX6_readClock_41 (fun u12 eu12 H locs hH => ?_)
    have hI := hI.pa0 eu12 (by decide)
    refine lv_aload_n hx hb dX6_readClock_42 rfl (lv_at hl 2 rfl) ?_
    refine va_get (ci := 7) (v := .ref (A 58)) (C := RX7) (T := TX7) (N := 16) hx hb hts (fun w h => uc_in w (inX7 w h)) hown hK hH.1 3 (cwc3 C A u12) rfl 9 (by decide) (hts _ (uc_in _ q_f101)) (fun _ h9 => h9) rfl dX6_readClock_43 ?_
    refine lv_iload_n hx hb dX6_readClock_46 rfl (lv_at hl 0 rfl) ?_
    refine lv_aload_n hx hb dX6_readClock_47 rfl (lv_at hl 1 rfl) ?_
    refine va_ldcS hx hb hown (show vk_R RX6 101 "late" (adK 6) s from hX.2.1 6 (by decide)) dX6_readClock_48 ?_
    refine va_ldcS hx hb hown (show vk_R RX6 102 "early" (adK 7) s from hX.2.1 7 (by decide)) dX6_readClock_50 ?_
    refine cvI (n := 2) (As := [.ref (adK 6), .ref (adK 7)]) (rest := [.int (gi u 20), .ref (A 58)]) ⟨hx, hb, hml, hown, hts⟩ uc_in (kX6_either_0 l D C A u12 hI  adK adV _) q_m542 q_n544 q_p8 q_i2 q_c545 hvX6_either ⟨(Nat.le_of_ble_eq_true rfl), (Nat.le_of_ble_eq_true rfl)⟩ ⟨(Nat.le_of_ble_eq_true rfl), (Nat.le_of_ble_eq_true rfl)⟩ hK hH (fun q h => Or.inr h) BlS (fun U hU hW => hX.at hH hW hU) 6 1 rfl (cwc1 C A u12) rfl hl.1 rfl (Nat.le_of_ble_eq_true rfl) dX6_readClock_52 (fun r14 u13 H locs p15 hH => ?_)
    obtain ⟨hI, hUu13, p15⟩ := p15
    have p15 : (-1) ≤ r14.toInt ∧ r14.toInt ≤ 1 := p15
    refine lv_aload_n hx hb dX6_readClock_55 rfl (lv_at hl 1 rfl) ?_
    refine lv_iconst (v := 0) hx hb dX6_readClock_56 (by decide) ?_
    refine lv_bipush (v := 60) hx hb dX6_readClock_57 (by decide) ?_
    refine cvI (n := 2) (As := [.int 0, .int 60]) (rest := [.int r14, .int (gi u 20), .ref (A 58)]) ⟨hx, hb, hml, hown, hts⟩ uc_in (kX6_numeral_0 l D C A u13 hI (0) 0 (by decide) (60) 60 (by decide) _) q_m528 q_n530 q_p6 q_i2 q_c531 hvX6_numeral ⟨(Nat.le_of_ble_eq_true rfl), (Nat.le_of_ble_eq_true rfl)⟩ ⟨(Nat.le_of_ble_eq_true rfl), (Nat.le_of_ble_eq_true rfl)⟩ hK hH (fun q h => Or.inr h) Bl0 (fun _ _ _ => trivial) 6 1 rfl (cwc1 C A u13) rfl hl.1 rfl (Nat.le_of_ble_eq_true rfl) dX6_readClock_59 (fun r17 u16 H locs p18 hH => ?_)
    obtain ⟨hI, hUu16, p18⟩ := p18
    refine lv_imul hx hb dX6_readClock_62 ?_
    refine p_any (fun z19 => ?_)
    refine r_iast (j := 58) hx hb hK hH 58 1 (cwc58 C A u16) rfl (i_ix rfl (by omega) (by omega)) (cwa58 C A u16) dX6_readClock_63 (fun u20 eu20 H locs hH => ?_)
    have hI := hI.pa0 eu20 (by decide)
    refine lv_aload_n hx hb dX6_readClock_64 rfl (lv_at hl 2 rfl) ?_
    refine va_get (ci := 7) (v := .ref (A 59)) (C := RX7) (T := TX7) (N := 16) hx hb hts (fun w h => uc_in w (inX7 w h)) hown hK hH.1 3 (cwc3 C A u20) rfl 10 (by decide) (hts _ (uc_in _ q_f105)) (fun _ h9 => h9) rfl dX6_readClock_65 ?_
    refine lv_iload_n hx hb dX6_readClock_68 rfl (lv_at hl 0 rfl) ?_
    refine lv_aload_n hx hb dX6_readClock_69 rfl (lv_at hl 1 rfl) ?_
    refine va_ldcS hx hb hown (show vk_R RX6 111 "loses" (adK 8) s from hX.2.1 8 (by decide)) dX6_readClock_70 ?_
    refine va_ldcS hx hb hown (show vk_R RX6 112 "gains" (adK 9) s from hX.2.1 9 (by decide)) dX6_readClock_72 ?_
    refine cvI (n := 2) (As := [.ref (adK 8), .ref (adK 9)]) (rest := [.int (gi u 20), .ref (A 59)]) ⟨hx, hb, hml, hown, hts⟩ uc_in (kX6_either_1 l D C A u20 hI  adK adV _) q_m542 q_n544 q_p8 q_i2 q_c545 hvX6_either ⟨(Nat.le_of_ble_eq_true rfl), (Nat.le_of_ble_eq_true rfl)⟩ ⟨(Nat.le_of_ble_eq_true rfl), (Nat.le_of_ble_eq_true rfl)⟩ hK hH (fun q h => Or.inr h) BlS (fun U hU hW => hX.at hH hW hU) 6 1 rfl (cwc1 C A u20) rfl hl.1 rfl (Nat.le_of_ble_eq_true rfl) dX6_readClock_74 (fun r22 u21 H locs p23 hH => ?_)
    obtain ⟨hI, hUu21, p23⟩ := p23
    have p23 : (-1) ≤ r22.toInt ∧ r22.toInt ≤ 1 := p23
    refine lv_aload_n hx hb dX6_readClock_77 rfl (lv_at hl 1 rfl) ?_
    refine lv_iconst (v := 0) hx hb dX6_readClock_78 (by decide) ?_
    refine lv_bipush (v := 9) hx hb dX6_readClock_79 (by decide) ?_
    refine cvI (n := 2) (As := [.int 0, .int 9]) (rest := [.int r22, .int (gi u 20), .ref (A 59)]) ⟨hx, hb, hml, hown, hts⟩ uc_in (kX6_numeral_0 l D C A u21 hI (0) 0 (by decide) (9) 9 (by decide) _) q_m528 q_n530 q_p6 q_i2 q_c531 hvX6_numeral ⟨(Nat.le_of_ble_eq_true rfl), (Nat.le_of_ble_eq_true rfl)⟩ ⟨(Nat.le_of_ble_eq_true rfl), (Nat.le_of_ble_eq_true rfl)⟩ hK hH (fun q h => Or.inr h) Bl0 (fun _ _ _ => trivial) 6 1 rfl (cwc1 C A u21) rfl hl.1 rfl (Nat.le_of_ble_eq_true rfl) dX6_readClock_81 (fun r25 u24 H locs p26 hH => ?_)
    obtain ⟨hI, hUu24, p26⟩ := p26
    refine lv_imul hx hb dX6_readClock_84 ?_
    refine p_any (fun z27 => ?_)
    refine r_iast (j := 59) hx hb hK hH 59 1 (cwc59 C A u24) rfl (i_ix rfl (by omega) (by omega)) (cwa59 C A u24) dX6_readClock_85 (fun u28 eu28 H locs hH => ?_)
    have hI := hI.pa0 eu28 (by decide)
    refine lv_aload_n hx hb dX6_readClock_86 rfl (lv_at hl 1 rfl) ?_
    refine va_ldcS hx hb hown (show vk_R RX6 114 "rent" (adK 10) s from hX.2.1 10 (by decide)) dX6_readClock_87 ?_
    refine cvU (n := 1) (As := [.ref (adK 10)]) (rest := []) ⟨hx, hb, hml, hown, hts⟩ uc_in (kX6_expect_4 l D C A u28 hI  adK adV _) q_m467 q_n469 q_p3 q_i2 q_c470 hvX6_expect ⟨(Nat.le_of_ble_eq_true rfl), (Nat.le_of_ble_eq_true rfl)⟩ ⟨(Nat.le_of_ble_eq_true rfl), (Nat.le_of_ble_eq_true rfl)⟩ hK hH (fun q h => Or.inr h) BlS (fun U hU hW => hX.at hH hW hU) 6 1 rfl (cwc1 C A u28) rfl hl.1 rfl (Nat.le_of_ble_eq_true rfl) dX6_readClock_89 (fun u29 H locs p31 hH => ?_)
    obtain ⟨hI, hUu29, p31⟩ := p31
    refine lv_aload_n hx hb dX6_readClock_92 rfl (lv_at hl 2 rfl) ?_
    refine va_get (ci := 7) (v := .ref (A 60)) (C := RX7) (T := TX7) (N := 16) hx hb hts (fun w h => uc_in w (inX7 w h)) hown hK hH.1 3 (cwc3 C A u29) rfl 11 (by decide) (hts _ (uc_in _ q_f110)) (fun _ h9 => h9) rfl dX6_readClock_93 ?_
    refine lv_iload_n hx hb dX6_readClock_96 rfl (lv_at hl 0 rfl) ?_
    refine lv_aload_n hx hb dX6_readClock_97 rfl (lv_at hl 1 rfl) ?_
    refine lv_iconst (v := 0) hx hb dX6_readClock_98 (by decide) ?_
    refine lv_sipush (v := 999) hx hb dX6_readClock_99 (by decide) ?_
    refine cvI (n := 2) (As := [.int 0, .int 999]) (rest := [.int (gi u 20), .ref (A 60)]) ⟨hx, hb, hml, hown, hts⟩ uc_in (kX6_numeral_0 l D C A u29 hI (0) 0 (by decide) (999) 999 (by decide) _) q_m528 q_n530 q_p6 q_i2 q_c531 hvX6_numeral ⟨(Nat.le_of_ble_eq_true rfl), (Nat.le_of_ble_eq_true rfl)⟩ ⟨(Nat.le_of_ble_eq_true rfl), (Nat.le_of_ble_eq_true rfl)⟩ hK hH (fun q h => Or.inr h) Bl0 (fun _ _ _ => trivial) 6 1 rfl (cwc1 C A u29) rfl hl.1 rfl (Nat.le_of_ble_eq_true rfl) dX6_readClock_102 (fun r33 u32 H locs p34 hH => ?_)
    obtain ⟨hI, hUu32, p34⟩ := p34
    refine r_iast (j := 60) hx hb hK hH 60 1 (cwc60 C A u32) rfl (i_ix rfl (by omega) (by omega)) (cwa60 C A u32) dX6_readClock_105 (fun u35 eu35 H locs hH => ?_)
    have hI := hI.pa0 eu35 (by decide)
    refine lv_aload_n hx hb dX6_readClock_106 rfl (lv_at hl 2 rfl) ?_
    refine va_get (ci := 7) (v := .ref (A 61)) (C := RX7) (T := TX7) (N := 16) hx hb hts (fun w h => uc_in w (inX7 w h)) hown hK hH.1 3 (cwc3 C A u35) rfl 12 (by decide) (hts _ (uc_in _ q_f114)) (fun _ h9 => h9) rfl dX6_readClock_107 ?_
    refine lv_iload_n hx hb dX6_readClock_110 rfl (lv_at hl 0 rfl) ?_
    refine lv_iconst (v := 0) hx hb dX6_readClock_111 (by decide) ?_
    refine r_iast (j := 61) hx hb hK hH 61 1 (cwc61 C A u35) rfl (i_ix rfl (by omega) (by omega)) (cwa61 C A u35) dX6_readClock_112 (fun u36 eu36 H locs hH => ?_)
    have hI := hI.pa0 eu36 (by decide)
    refine lv_aload_n hx hb dX6_readClock_113 rfl (lv_at hl 1 rfl) ?_
    refine va_ldcS hx hb hown (show vk_R RX6 121 "dead" (adK 11) s from hX.2.1 11 (by decide)) dX6_readClock_114 ?_
    refine cvI (n := 1) (As := [.ref (adK 11)]) (rest := []) ⟨hx, hb, hml, hown, hts⟩ uc_in (kX6_isWord_9 l D C A u36 hI  adK adV _) q_m471 q_n473 q_p4 q_i2 q_c474 hvX6_isWord ⟨(Nat.le_of_ble_eq_true rfl), (Nat.le_of_ble_eq_true rfl)⟩ ⟨(Nat.le_of_ble_eq_true rfl), (Nat.le_of_ble_eq_true rfl)⟩ hK hH (fun q h => Or.inr h) BlS (fun U hU hW => hX.at hH hW hU) 6 1 rfl (cwc1 C A u36) rfl hl.1 rfl (Nat.le_of_ble_eq_true rfl) dX6_readClock_116 (fun r38 u37 H locs p39 hH => ?_)
    obtain ⟨hI, hUu37, p39⟩ := p39
    have p39 : 0 ≤ r38.toInt ∧ r38.toInt ≤ 1 := p39
    have j133_49 : ∀ (ls : Array Slot) (u49 : St) (H : Heap) (locs : List Loc), Un [(4, 4), (5, 5), (6, 6), (7, 7)] [(61, 61)] [] u37 u49 → IC u49 → Hd D (cw C A) (va_A (cw C A u) s.heap.size) s.heap u49 H locs → lv_has ls 3 [(1, .ref (A 3))] → W p l e (rmL 7 0 0) s m ar below meth c H locs 0 0 Q (F0 m 133 ls []) := by
      intro ls u49 H locs hUu49 hI hH hl
      refine lv_aload_n hx hb dX6_readClock_133 rfl (lv_at hl 0 rfl) ?_
      refine lv_dup hx hb dX6_readClock_134 rfl ?_
      refine va_get (ci := 7) (v := .int (gi u49 20)) (C := RX7) (T := TX7) (N := 16) hx hb hts (fun w h => uc_in w (inX7 w h)) hown hK hH.1 3 (cwc3 C A u49) rfl 4 (by decide) (hts _ (uc_in _ q_f83)) (fun _ h9 => h9) rfl dX6_readClock_135 ?_
      refine pv_i (v := (gi u 20)) ((hUu49.1 20 rfl).trans ((hUu37.1 20 rfl).trans ((gi_sa eu36).trans ((gi_sa eu35).trans ((hUu32.1 20 rfl).trans ((hUu29.1 20 rfl).trans ((gi_sa eu28).trans ((hUu24.1 20 rfl).trans ((hUu21.1 20 rfl).trans ((gi_sa eu20).trans ((hUu16.1 20 rfl).trans ((hUu13.1 20 rfl).trans ((gi_sa eu12).trans ((hUu9.1 20 rfl).trans ((hUu6.1 20 rfl).trans ((hUu3.1 20 rfl).trans rfl)))))))))))))))) ?_
      refine lv_iconst (v := 1) hx hb dX6_readClock_138 (by decide) ?_
      refine lv_iadd hx hb dX6_readClock_139 ?_
      refine p_nm (tt_add (X := ((gi u 20)).toInt) (Y := 1) rfl (by decide) (by omega) (by omega)) (fun z51 hz51 => ?_)
      refine r_put (j := 20) (ci := 7) (C := RX7) (T := TX7) (N := 16) hx hb hts (fun w h => uc_in w (inX7 w h)) tyX7 tyX7_ok nmX7 hown hK hH 3 (cwc3 C A u49) rfl 4 (by decide) (hts _ (uc_in _ q_f83)) (fun _ h9 => h9) rfl (by decide +kernel) (Nat.le_of_ble_eq_true rfl) (cws20 C A u49 _) dX6_readClock_140 (fun u52 eu52 H locs hH => ?_)
      have hI := hI.s20 eu52 hz51 (by omega) (by omega)
      exact hret _ _ _ _ _ dX6_readClock_143 ⟨hI, (Un.si (Un.tr (Un.tr (Un.sa (Un.sa (Un.tr (Un.tr (Un.sa (Un.tr (Un.tr (Un.sa (Un.tr (Un.tr (Un.sa (Un.tr (Un.tr (Un.tr Un.rf hUu3 rfl rfl rfl) hUu6 rfl rfl rfl) hUu9 rfl rfl rfl) rfl eu12) hUu13 rfl rfl rfl) hUu16 rfl rfl rfl) rfl eu20) hUu21 rfl rfl rfl) hUu24 rfl rfl rfl) rfl eu28) hUu29 rfl rfl rfl) hUu32 rfl rfl rfl) rfl eu35) rfl eu36) hUu37 rfl rfl rfl) hUu49 rfl rfl rfl) rfl eu52), trivial⟩ hH
    refine lv_if_eq (tgt := 133) hx hb dX6_readClock_119 (by decide) (fun c40 => ?_) (fun c40 => ?_)
    · have c40 := cEQ (x := r38) (y := 0) (X := r38.toInt) (Y := 0) rfl (by decide) c40
      exact j133_49 ls u37 _ _ Un.rf hI hH (lv_sub hl [2] rfl)
    · have c40 := cNE (x := r38) (y := 0) (X := r38.toInt) (Y := 0) rfl (by decide) c40
      refine lv_aload_n hx hb dX6_readClock_122 rfl (lv_at hl 2 rfl) ?_
      refine va_get (ci := 7) (v := .ref (A 61)) (C := RX7) (T := TX7) (N := 16) hx hb hts (fun w h => uc_in w (inX7 w h)) hown hK hH.1 3 (cwc3 C A u37) rfl 12 (by decide) (hts _ (uc_in _ q_f114)) (fun _ h9 => h9) rfl dX6_readClock_123 ?_
      refine lv_iload_n hx hb dX6_readClock_126 rfl (lv_at hl 0 rfl) ?_
      refine lv_iconst (v := 1) hx hb dX6_readClock_127 (by decide) ?_
      refine r_iast (j := 61) hx hb hK hH 61 1 (cwc61 C A u37) rfl (i_ix rfl (by omega) (by omega)) (cwa61 C A u37) dX6_readClock_128 (fun u53 eu53 H locs hH => ?_)
      have hI := hI.pa0 eu53 (by decide)
      refine lv_aload_n hx hb dX6_readClock_129 rfl (lv_at hl 1 rfl) ?_
      refine cvU (n := 0) (As := []) (rest := []) ⟨hx, hb, hml, hown, hts⟩ uc_in (kX6_step_0 l D C A u53 hI  _) q_m444 q_n446 q_p0 q_i2 q_c447 hvX6_step ⟨(Nat.le_of_ble_eq_true rfl), (Nat.le_of_ble_eq_true rfl)⟩ ⟨(Nat.le_of_ble_eq_true rfl), (Nat.le_of_ble_eq_true rfl)⟩ hK hH (fun q h => Or.inr h) Bl0 (fun _ _ _ => trivial) 6 1 rfl (cwc1 C A u53) rfl hl.1 rfl (Nat.le_of_ble_eq_true rfl) dX6_readClock_130 (fun u54 H locs p56 hH => ?_)
      obtain ⟨hI, hUu54, p56⟩ := p56
      exact j133_49 ls u54 _ _ (Un.tr (Un.sa Un.rf rfl eu53) hUu54 rfl rfl rfl) hI hH (lv_sub hl [2] rfl)
  · have c2 := cNLT (x := (gi u 20)) (y := 6) (X := ((gi u 20)).toInt) (Y := 6) rfl (by decide) c2
    refine lv_aload_n hx hb dX6_readClock_11 rfl (lv_at hl 1 rfl) ?_
    refine lv_iconst (v := 3) hx hb dX6_readClock_12 (by decide) ?_
    refine cvU (n := 1) (As := [.int 3]) (rest := []) ⟨hx, hb, hml, hown, hts⟩ uc_in (kX6_blame_2 l D C A u hI  _) q_m523 q_n525 q_p5 q_i2 q_c526 hvX6_blame ⟨(Nat.le_of_ble_eq_true rfl), (Nat.le_of_ble_eq_true rfl)⟩ ⟨(Nat.le_of_ble_eq_true rfl), (Nat.le_of_ble_eq_true rfl)⟩ hK hH (fun q h => Or.inr h) Bl0 (fun _ _ _ => trivial) 6 1 rfl (cwc1 C A u) rfl hl.1 rfl (Nat.le_of_ble_eq_true rfl) dX6_readClock_13 (fun u57 H locs p59 hH => ?_)
    obtain ⟨hI, hUu57, p59⟩ := p59
    exact hret _ _ _ _ _ dX6_readClock_16 ⟨hI, (Un.tr Un.rf hUu57 rfl rfl rfl), trivial⟩ hH
set_option maxHeartbeats 4000000 in
set_option maxRecDepth 100000 in
theorem kX6_isWord_10 (l : Launch) (D : va_G) (C : Nat → ClassId) (A : Nat → Nat) (u : St) (hI : IC u) (adK adV : Nat → Nat) (sz : Nat) : MetI l yX6_isWord cX6_isWord 3 (some .boolean) 5 [.ref (A 1), .ref (adK 0)] D (tyl C) (cw C A) (XS adK adV) u sz (fun r u' => IC u' ∧ Un [] [] [] u u' ∧ (0 ≤ r.toInt ∧ r.toInt ≤ 1)) := by
  refine mI (by decide) (Nat.le_of_ble_eq_true rfl) ?_
  intro p e s m below meth c ls ar Q hx hb hml hown hts hK hH hX hl hret
  have hown : s.vm.findClass RX6 = some m.cls := hown
  have hl : lv_has ls 3 [(0, .ref (A 1)), (1, .ref (adK 0))] := hl
  refine lv_aload_n hx hb dX6_isWord_0 rfl (lv_at hl 0 rfl) ?_
  refine va_get (ci := 6) (v := .int (gi u 6)) (C := RX6) (T := TX6) (N := 8) hx hb hts (fun w h => uc_in w (inX6 w h)) hown hK hH.1 1 (cwc1 C A u) rfl 6 (by decide) (hts _ (uc_in _ q_f42)) (fun _ h9 => h9) rfl dX6_isWord_1 ?_
  refine lv_iconst (v := 2) hx hb dX6_isWord_4 (by decide) ?_
  refine lv_icmp_ne (tgt := 24) hx hb dX6_isWord_5 (by decide) (fun c1 => ?_) (fun c1 => ?_)
  · refine lv_iconst (v := 0) hx hb dX6_isWord_24 (by decide) ?_
    exact hret _ _ _ _ (0 : Int32) _ dX6_isWord_25 rfl ⟨hI, Un.rf, ⟨by decide, by decide⟩⟩ hH
  · have c1 := cEQ (x := (gi u 6)) (y := 2) (X := ((gi u 6)).toInt) (Y := 2) rfl (by decide) c1
    refine lv_aload_n hx hb dX6_isWord_8 rfl (lv_at hl 0 rfl) ?_
    refine va_get (ci := 6) (v := .int (gi u 5)) (C := RX6) (T := TX6) (N := 8) hx hb hts (fun w h => uc_in w (inX6 w h)) hown hK hH.1 1 (cwc1 C A u) rfl 5 (by decide) (hts _ (uc_in _ q_f41)) (fun _ h9 => h9) rfl dX6_isWord_9 ?_
    have b2 := hI.b5
    refine lv_aload_n hx hb dX6_isWord_12 rfl (lv_at hl 0 rfl) ?_
    refine va_get (ci := 6) (v := .int (gi u 4)) (C := RX6) (T := TX6) (N := 8) hx hb hts (fun w h => uc_in w (inX6 w h)) hown hK hH.1 1 (cwc1 C A u) rfl 4 (by decide) (hts _ (uc_in _ q_f40)) (fun _ h9 => h9) rfl dX6_isWord_13 ?_
    have b3 := hI.b4
    refine lv_isub hx hb dX6_isWord_16 ?_
    refine p_nm (tt_sub (X := ((gi u 5)).toInt) (Y := ((gi u 4)).toInt) rfl rfl (by omega) (by omega)) (fun z4 hz4 => ?_)
    refine lv_aload_n hx hb dX6_isWord_17 rfl (lv_at hl 1 rfl) ?_
    refine cvT (n := 0) (As := []) (rest := [.int z4]) ⟨hx, hb, hml, hown, hts⟩ uc_in (kT_length l adK adV 0 (by decide)) blT q_m475 q_n476 q_e477 q_i13 q_c478 hvJ0_length_8abf5 ⟨(Nat.le_of_ble_eq_true rfl), (Nat.le_of_ble_eq_true rfl)⟩ ⟨(Nat.le_of_ble_eq_true rfl), (Nat.le_of_ble_eq_true rfl)⟩ (vk_recv hX.1 (show 0 < 14 by decide) hH.2.2) (fun U hU hW => hX.now hH hW hU) rfl hl.1 rfl (Nat.le_of_ble_eq_true rfl) dX6_isWord_18 (fun r5 p6 => ?_)
    have p6 : r5 = 4 := p6.trans (by decide)
    subst p6
    refine lv_icmp_eq (tgt := 26) hx hb dX6_isWord_21 (by decide) (fun c7 => ?_) (fun c7 => ?_)
    · have c7 := cEQ (x := z4) (y := 4) (X := (((gi u 5)).toInt - ((gi u 4)).toInt)) (Y := 4) hz4 (by decide) c7
      refine lv_iconst (v := 0) hx hb dX6_isWord_26 (by decide) ?_
      refine lv_istore_n (lv' := [(2, .int 0), (0, .ref (A 1)), (1, .ref (adK 0))]) hx hb dX6_isWord_27 rfl hl (by decide) rfl (fun ls hl => ?_)
      have lp28_56 : ∀ (n28 : Nat) (ls : Array Slot) (y56d : Int32), 0 ≤ y56d.toInt → y56d.toInt ≤ 4 → 4 - y56d.toInt < (n28 : Int) → lv_has ls 3 [(2, .int y56d), (0, .ref (A 1)), (1, .ref (adK 0))] → W p l e (rmL 5 0 0) s m ar below meth c s.heap [] 0 0 Q (F0 m 28 ls []) := by
        intro n28
        induction n28 with
        | zero => intro ls y56d ly56d my56d hmun28 hl; exfalso; omega
        | succ n28 ih28_56 =>
          intro ls y56d ly56d my56d hmun28 hl
          refine lv_iload_n hx hb dX6_isWord_28 rfl (lv_at hl 0 rfl) ?_
          refine lv_aload_n hx hb dX6_isWord_29 rfl (lv_at hl 2 rfl) ?_
          refine cvT (n := 0) (As := []) (rest := [.int y56d]) ⟨hx, hb, hml, hown, hts⟩ uc_in (kT_length l adK adV 0 (by decide)) blT q_m475 q_n476 q_e477 q_i13 q_c478 hvJ0_length_8abf5 ⟨(Nat.le_of_ble_eq_true rfl), (Nat.le_of_ble_eq_true rfl)⟩ ⟨(Nat.le_of_ble_eq_true rfl), (Nat.le_of_ble_eq_true rfl)⟩ (vk_recv hX.1 (show 0 < 14 by decide) hH.2.2) (fun U hU hW => hX.now hH hW hU) rfl hl.1 rfl (Nat.le_of_ble_eq_true rfl) dX6_isWord_30 (fun r58 p59 => ?_)
          have p59 : r58 = 4 := p59.trans (by decide)
          subst p59
          refine lv_icmp_ge (tgt := 63) hx hb dX6_isWord_33 (by decide) (fun c60 => ?_) (fun c60 => ?_)
          · have c60 := cLE (x := 4) (y := y56d) (X := 4) (Y := y56d.toInt) (by decide) rfl c60
            refine lv_iconst (v := 1) hx hb dX6_isWord_63 (by decide) ?_
            exact hret _ _ _ _ (1 : Int32) _ dX6_isWord_64 rfl ⟨hI, Un.rf, ⟨by decide, by decide⟩⟩ hH
          · have c60 := cNLE (x := 4) (y := y56d) (X := 4) (Y := y56d.toInt) (by decide) rfl c60
            refine lv_aload_n hx hb dX6_isWord_36 rfl (lv_at hl 1 rfl) ?_
            refine va_get (ci := 6) (v := .ref (A 22)) (C := RX6) (T := TX6) (N := 8) hx hb hts (fun w h => uc_in w (inX6 w h)) hown hK hH.1 1 (cwc1 C A u) rfl 0 (by decide) (hts _ (uc_in _ q_f33)) (fun _ h9 => h9) rfl dX6_isWord_37 ?_
            refine lv_aload_n hx hb dX6_isWord_40 rfl (lv_at hl 1 rfl) ?_
            refine va_get (ci := 6) (v := .int (gi u 4)) (C := RX6) (T := TX6) (N := 8) hx hb hts (fun w h => uc_in w (inX6 w h)) hown hK hH.1 1 (cwc1 C A u) rfl 4 (by decide) (hts _ (uc_in _ q_f40)) (fun _ h9 => h9) rfl dX6_isWord_41 ?_
            refine lv_iload_n hx hb dX6_isWord_44 rfl (lv_at hl 0 rfl) ?_
            refine lv_iadd hx hb dX6_isWord_45 ?_
            refine p_nm (tt_add (X := ((gi u 4)).toInt) (Y := y56d.toInt) rfl rfl (by omega) (by omega)) (fun z61 hz61 => ?_)
            refine va_bald hx hb hK hH.1 22 0 (cwc22 C A u) rfl (i_ix hz61 (by omega) (by omega)) dX6_isWord_46 ?_
            refine p_any (fun z62 => ?_)
            refine lv_aload_n hx hb dX6_isWord_47 rfl (lv_at hl 2 rfl) ?_
            refine lv_iload_n hx hb dX6_isWord_48 rfl (lv_at hl 0 rfl) ?_
            refine cvT (n := 1) (As := [.int y56d]) (rest := [.int z62]) ⟨hx, hb, hml, hown, hts⟩ uc_in (kT_charAt l adK adV 0 (by decide) y56d (show vp_in y56d 4 from i_ix rfl (by omega) (by omega))) blT q_m485 q_n486 q_e487 q_i13 q_c488 hvJ0_charAt_5068e ⟨(Nat.le_of_ble_eq_true rfl), (Nat.le_of_ble_eq_true rfl)⟩ ⟨(Nat.le_of_ble_eq_true rfl), (Nat.le_of_ble_eq_true rfl)⟩ (vk_recv hX.1 (show 0 < 14 by decide) hH.2.2) (fun U hU hW => hX.now hH hW hU) rfl hl.1 rfl (Nat.le_of_ble_eq_true rfl) dX6_isWord_49 (fun r63 _ => ?_)
            refine lv_icmp_eq (tgt := 57) hx hb dX6_isWord_52 (by decide) (fun c64 => ?_) (fun c64 => ?_)
            · have c64 := cEQ (x := z62) (y := r63) (X := z62.toInt) (Y := r63.toInt) rfl rfl c64
              obtain ⟨z65, ez65⟩ : ∃ z, z = y56d + Int32.ofInt 1 := ⟨_, rfl⟩
              have hz65 : z65.toInt = y56d.toInt + 1 := by rw [ez65]; exact tt_add rfl (by decide) (by omega) (by omega)
              refine lv_iinc (v := z65) (lv' := [(2, .int z65), (0, .ref (A 1)), (1, .ref (adK 0))]) hx hb dX6_isWord_57 hl (k := 0) rfl ez65.symm (by decide) rfl (fun ls hl => ?_)
              refine lv_goto (tgt := 28) hx hb dX6_isWord_60 (by decide) ?_
              exact ih28_56 ls z65 (by have q9 := (show z65.toInt = (y56d.toInt + 1) from hz65); omega) (by have q9 := (show z65.toInt = (y56d.toInt + 1) from hz65); omega) (by have q9 := (show z65.toInt = (y56d.toInt + 1) from hz65); omega) hl
            · refine lv_iconst (v := 0) hx hb dX6_isWord_55 (by decide) ?_
              exact hret _ _ _ _ (0 : Int32) _ dX6_isWord_56 rfl ⟨hI, Un.rf, ⟨by decide, by decide⟩⟩ hH
      exact lp28_56 5 ls 0 (by decide) (by decide) (by have q9 : (0 : Int32).toInt = 0 := (by decide); omega) hl
    · refine lv_iconst (v := 0) hx hb dX6_isWord_24 (by decide) ?_
      exact hret _ _ _ _ (0 : Int32) _ dX6_isWord_25 rfl ⟨hI, Un.rf, ⟨by decide, by decide⟩⟩ hH
set_option maxHeartbeats 4000000 in
set_option maxRecDepth 100000 in
theorem kX6_expect_5 (l : Launch) (D : va_G) (C : Nat → ClassId) (A : Nat → Nat) (u : St) (hI : IC u) (adK adV : Nat → Nat) (sz : Nat) : MetV l yX6_expect cX6_expect 2 6 [.ref (A 1), .ref (adK 0)] D (tyl C) (cw C A) (XS adK adV) u sz (fun u' => IC u' ∧ Un [(2, 2), (3, 3), (4, 4), (5, 5), (6, 6), (7, 7)] [] [] u u' ∧ True) := by
  refine mV (by decide) (Nat.le_of_ble_eq_true rfl) ?_
  intro p e s m below meth c ls ar Q hx hb hml hown hts hK hH hX hl hret
  have hown : s.vm.findClass RX6 = some m.cls := hown
  have hl : lv_has ls 2 [(0, .ref (A 1)), (1, .ref (adK 0))] := hl
  refine lv_aload_n hx hb dX6_expect_0 rfl (lv_at hl 0 rfl) ?_
  refine lv_aload_n hx hb dX6_expect_1 rfl (lv_at hl 1 rfl) ?_
  refine cvI (n := 1) (As := [.ref (adK 0)]) (rest := []) ⟨hx, hb, hml, hown, hts⟩ uc_in (kX6_isWord_10 l D C A u hI  adK adV _) q_m471 q_n473 q_p4 q_i2 q_c474 hvX6_isWord ⟨(Nat.le_of_ble_eq_true rfl), (Nat.le_of_ble_eq_true rfl)⟩ ⟨(Nat.le_of_ble_eq_true rfl), (Nat.le_of_ble_eq_true rfl)⟩ hK hH (fun q h => Or.inr h) BlS (fun U hU hW => hX.at hH hW hU) 6 1 rfl (cwc1 C A u) rfl hl.1 rfl (Nat.le_of_ble_eq_true rfl) dX6_expect_2 (fun r2 u1 H locs p3 hH => ?_)
  obtain ⟨hI, hUu1, p3⟩ := p3
  have p3 : 0 ≤ r2.toInt ∧ r2.toInt ≤ 1 := p3
  refine lv_if_ne (tgt := 13) hx hb dX6_expect_5 (by decide) (fun c4 => ?_) (fun c4 => ?_)
  · have c4 := cNE (x := r2) (y := 0) (X := r2.toInt) (Y := 0) rfl (by decide) c4
    refine lv_aload_n hx hb dX6_expect_13 rfl (lv_at hl 0 rfl) ?_
    refine cvU (n := 0) (As := []) (rest := []) ⟨hx, hb, hml, hown, hts⟩ uc_in (kX6_step_0 l D C A u1 hI  _) q_m444 q_n446 q_p0 q_i2 q_c447 hvX6_step ⟨(Nat.le_of_ble_eq_true rfl), (Nat.le_of_ble_eq_true rfl)⟩ ⟨(Nat.le_of_ble_eq_true rfl), (Nat.le_of_ble_eq_true rfl)⟩ hK hH (fun q h => Or.inr h) Bl0 (fun _ _ _ => trivial) 6 1 rfl (cwc1 C A u1) rfl hl.1 rfl (Nat.le_of_ble_eq_true rfl) dX6_expect_14 (fun u5 H locs p7 hH => ?_)
    obtain ⟨hI, hUu5, p7⟩ := p7
    exact hret _ _ _ _ _ dX6_expect_17 ⟨hI, (Un.tr (Un.tr Un.rf hUu1 rfl rfl rfl) hUu5 rfl rfl rfl), trivial⟩ hH
  · have c4 := cEQ (x := r2) (y := 0) (X := r2.toInt) (Y := 0) rfl (by decide) c4
    refine lv_aload_n hx hb dX6_expect_8 rfl (lv_at hl 0 rfl) ?_
    refine lv_iconst (v := 1) hx hb dX6_expect_9 (by decide) ?_
    refine cvU (n := 1) (As := [.int 1]) (rest := []) ⟨hx, hb, hml, hown, hts⟩ uc_in (kX6_blame_0 l D C A u1 hI  _) q_m523 q_n525 q_p5 q_i2 q_c526 hvX6_blame ⟨(Nat.le_of_ble_eq_true rfl), (Nat.le_of_ble_eq_true rfl)⟩ ⟨(Nat.le_of_ble_eq_true rfl), (Nat.le_of_ble_eq_true rfl)⟩ hK hH (fun q h => Or.inr h) Bl0 (fun _ _ _ => trivial) 6 1 rfl (cwc1 C A u1) rfl hl.1 rfl (Nat.le_of_ble_eq_true rfl) dX6_expect_10 (fun u8 H locs p10 hH => ?_)
    obtain ⟨hI, hUu8, p10⟩ := p10
    refine lv_aload_n hx hb dX6_expect_13 rfl (lv_at hl 0 rfl) ?_
    refine cvU (n := 0) (As := []) (rest := []) ⟨hx, hb, hml, hown, hts⟩ uc_in (kX6_step_0 l D C A u8 hI  _) q_m444 q_n446 q_p0 q_i2 q_c447 hvX6_step ⟨(Nat.le_of_ble_eq_true rfl), (Nat.le_of_ble_eq_true rfl)⟩ ⟨(Nat.le_of_ble_eq_true rfl), (Nat.le_of_ble_eq_true rfl)⟩ hK hH (fun q h => Or.inr h) Bl0 (fun _ _ _ => trivial) 6 1 rfl (cwc1 C A u8) rfl hl.1 rfl (Nat.le_of_ble_eq_true rfl) dX6_expect_14 (fun u11 H locs p13 hH => ?_)
    obtain ⟨hI, hUu11, p13⟩ := p13
    exact hret _ _ _ _ _ dX6_expect_17 ⟨hI, (Un.tr (Un.tr (Un.tr Un.rf hUu1 rfl rfl rfl) hUu8 rfl rfl rfl) hUu11 rfl rfl rfl), trivial⟩ hH
set_option maxHeartbeats 4000000 in
set_option maxRecDepth 100000 in
theorem kX6_isWord_11 (l : Launch) (D : va_G) (C : Nat → ClassId) (A : Nat → Nat) (u : St) (hI : IC u) (adK adV : Nat → Nat) (sz : Nat) : MetI l yX6_isWord cX6_isWord 3 (some .boolean) 5 [.ref (A 1), .ref (adK 1)] D (tyl C) (cw C A) (XS adK adV) u sz (fun r u' => IC u' ∧ Un [] [] [] u u' ∧ (0 ≤ r.toInt ∧ r.toInt ≤ 1)) := by
  refine mI (by decide) (Nat.le_of_ble_eq_true rfl) ?_
  intro p e s m below meth c ls ar Q hx hb hml hown hts hK hH hX hl hret
  have hown : s.vm.findClass RX6 = some m.cls := hown
  have hl : lv_has ls 3 [(0, .ref (A 1)), (1, .ref (adK 1))] := hl
  refine lv_aload_n hx hb dX6_isWord_0 rfl (lv_at hl 0 rfl) ?_
  refine va_get (ci := 6) (v := .int (gi u 6)) (C := RX6) (T := TX6) (N := 8) hx hb hts (fun w h => uc_in w (inX6 w h)) hown hK hH.1 1 (cwc1 C A u) rfl 6 (by decide) (hts _ (uc_in _ q_f42)) (fun _ h9 => h9) rfl dX6_isWord_1 ?_
  refine lv_iconst (v := 2) hx hb dX6_isWord_4 (by decide) ?_
  refine lv_icmp_ne (tgt := 24) hx hb dX6_isWord_5 (by decide) (fun c1 => ?_) (fun c1 => ?_)
  · refine lv_iconst (v := 0) hx hb dX6_isWord_24 (by decide) ?_
    exact hret _ _ _ _ (0 : Int32) _ dX6_isWord_25 rfl ⟨hI, Un.rf, ⟨by decide, by decide⟩⟩ hH
  · have c1 := cEQ (x := (gi u 6)) (y := 2) (X := ((gi u 6)).toInt) (Y := 2) rfl (by decide) c1
    refine lv_aload_n hx hb dX6_isWord_8 rfl (lv_at hl 0 rfl) ?_
    refine va_get (ci := 6) (v := .int (gi u 5)) (C := RX6) (T := TX6) (N := 8) hx hb hts (fun w h => uc_in w (inX6 w h)) hown hK hH.1 1 (cwc1 C A u) rfl 5 (by decide) (hts _ (uc_in _ q_f41)) (fun _ h9 => h9) rfl dX6_isWord_9 ?_
    have b2 := hI.b5
    refine lv_aload_n hx hb dX6_isWord_12 rfl (lv_at hl 0 rfl) ?_
    refine va_get (ci := 6) (v := .int (gi u 4)) (C := RX6) (T := TX6) (N := 8) hx hb hts (fun w h => uc_in w (inX6 w h)) hown hK hH.1 1 (cwc1 C A u) rfl 4 (by decide) (hts _ (uc_in _ q_f40)) (fun _ h9 => h9) rfl dX6_isWord_13 ?_
    have b3 := hI.b4
    refine lv_isub hx hb dX6_isWord_16 ?_
    refine p_nm (tt_sub (X := ((gi u 5)).toInt) (Y := ((gi u 4)).toInt) rfl rfl (by omega) (by omega)) (fun z4 hz4 => ?_)
    refine lv_aload_n hx hb dX6_isWord_17 rfl (lv_at hl 1 rfl) ?_
    refine cvT (n := 0) (As := []) (rest := [.int z4]) ⟨hx, hb, hml, hown, hts⟩ uc_in (kT_length l adK adV 1 (by decide)) blT q_m475 q_n476 q_e477 q_i13 q_c478 hvJ0_length_8abf5 ⟨(Nat.le_of_ble_eq_true rfl), (Nat.le_of_ble_eq_true rfl)⟩ ⟨(Nat.le_of_ble_eq_true rfl), (Nat.le_of_ble_eq_true rfl)⟩ (vk_recv hX.1 (show 1 < 14 by decide) hH.2.2) (fun U hU hW => hX.now hH hW hU) rfl hl.1 rfl (Nat.le_of_ble_eq_true rfl) dX6_isWord_18 (fun r5 p6 => ?_)
    have p6 : r5 = 4 := p6.trans (by decide)
    subst p6
    refine lv_icmp_eq (tgt := 26) hx hb dX6_isWord_21 (by decide) (fun c7 => ?_) (fun c7 => ?_)
    · have c7 := cEQ (x := z4) (y := 4) (X := (((gi u 5)).toInt - ((gi u 4)).toInt)) (Y := 4) hz4 (by decide) c7
      refine lv_iconst (v := 0) hx hb dX6_isWord_26 (by decide) ?_
      refine lv_istore_n (lv' := [(2, .int 0), (0, .ref (A 1)), (1, .ref (adK 1))]) hx hb dX6_isWord_27 rfl hl (by decide) rfl (fun ls hl => ?_)
      have lp28_56 : ∀ (n28 : Nat) (ls : Array Slot) (y56d : Int32), 0 ≤ y56d.toInt → y56d.toInt ≤ 4 → 4 - y56d.toInt < (n28 : Int) → lv_has ls 3 [(2, .int y56d), (0, .ref (A 1)), (1, .ref (adK 1))] → W p l e (rmL 5 0 0) s m ar below meth c s.heap [] 0 0 Q (F0 m 28 ls []) := by
        intro n28
        induction n28 with
        | zero => intro ls y56d ly56d my56d hmun28 hl; exfalso; omega
        | succ n28 ih28_56 =>
          intro ls y56d ly56d my56d hmun28 hl
          refine lv_iload_n hx hb dX6_isWord_28 rfl (lv_at hl 0 rfl) ?_
          refine lv_aload_n hx hb dX6_isWord_29 rfl (lv_at hl 2 rfl) ?_
          refine cvT (n := 0) (As := []) (rest := [.int y56d]) ⟨hx, hb, hml, hown, hts⟩ uc_in (kT_length l adK adV 1 (by decide)) blT q_m475 q_n476 q_e477 q_i13 q_c478 hvJ0_length_8abf5 ⟨(Nat.le_of_ble_eq_true rfl), (Nat.le_of_ble_eq_true rfl)⟩ ⟨(Nat.le_of_ble_eq_true rfl), (Nat.le_of_ble_eq_true rfl)⟩ (vk_recv hX.1 (show 1 < 14 by decide) hH.2.2) (fun U hU hW => hX.now hH hW hU) rfl hl.1 rfl (Nat.le_of_ble_eq_true rfl) dX6_isWord_30 (fun r58 p59 => ?_)
          have p59 : r58 = 4 := p59.trans (by decide)
          subst p59
          refine lv_icmp_ge (tgt := 63) hx hb dX6_isWord_33 (by decide) (fun c60 => ?_) (fun c60 => ?_)
          · have c60 := cLE (x := 4) (y := y56d) (X := 4) (Y := y56d.toInt) (by decide) rfl c60
            refine lv_iconst (v := 1) hx hb dX6_isWord_63 (by decide) ?_
            exact hret _ _ _ _ (1 : Int32) _ dX6_isWord_64 rfl ⟨hI, Un.rf, ⟨by decide, by decide⟩⟩ hH
          · have c60 := cNLE (x := 4) (y := y56d) (X := 4) (Y := y56d.toInt) (by decide) rfl c60
            refine lv_aload_n hx hb dX6_isWord_36 rfl (lv_at hl 1 rfl) ?_
            refine va_get (ci := 6) (v := .ref (A 22)) (C := RX6) (T := TX6) (N := 8) hx hb hts (fun w h => uc_in w (inX6 w h)) hown hK hH.1 1 (cwc1 C A u) rfl 0 (by decide) (hts _ (uc_in _ q_f33)) (fun _ h9 => h9) rfl dX6_isWord_37 ?_
            refine lv_aload_n hx hb dX6_isWord_40 rfl (lv_at hl 1 rfl) ?_
            refine va_get (ci := 6) (v := .int (gi u 4)) (C := RX6) (T := TX6) (N := 8) hx hb hts (fun w h => uc_in w (inX6 w h)) hown hK hH.1 1 (cwc1 C A u) rfl 4 (by decide) (hts _ (uc_in _ q_f40)) (fun _ h9 => h9) rfl dX6_isWord_41 ?_
            refine lv_iload_n hx hb dX6_isWord_44 rfl (lv_at hl 0 rfl) ?_
            refine lv_iadd hx hb dX6_isWord_45 ?_
            refine p_nm (tt_add (X := ((gi u 4)).toInt) (Y := y56d.toInt) rfl rfl (by omega) (by omega)) (fun z61 hz61 => ?_)
            refine va_bald hx hb hK hH.1 22 0 (cwc22 C A u) rfl (i_ix hz61 (by omega) (by omega)) dX6_isWord_46 ?_
            refine p_any (fun z62 => ?_)
            refine lv_aload_n hx hb dX6_isWord_47 rfl (lv_at hl 2 rfl) ?_
            refine lv_iload_n hx hb dX6_isWord_48 rfl (lv_at hl 0 rfl) ?_
            refine cvT (n := 1) (As := [.int y56d]) (rest := [.int z62]) ⟨hx, hb, hml, hown, hts⟩ uc_in (kT_charAt l adK adV 1 (by decide) y56d (show vp_in y56d 4 from i_ix rfl (by omega) (by omega))) blT q_m485 q_n486 q_e487 q_i13 q_c488 hvJ0_charAt_5068e ⟨(Nat.le_of_ble_eq_true rfl), (Nat.le_of_ble_eq_true rfl)⟩ ⟨(Nat.le_of_ble_eq_true rfl), (Nat.le_of_ble_eq_true rfl)⟩ (vk_recv hX.1 (show 1 < 14 by decide) hH.2.2) (fun U hU hW => hX.now hH hW hU) rfl hl.1 rfl (Nat.le_of_ble_eq_true rfl) dX6_isWord_49 (fun r63 _ => ?_)
            refine lv_icmp_eq (tgt := 57) hx hb dX6_isWord_52 (by decide) (fun c64 => ?_) (fun c64 => ?_)
            · have c64 := cEQ (x := z62) (y := r63) (X := z62.toInt) (Y := r63.toInt) rfl rfl c64
              obtain ⟨z65, ez65⟩ : ∃ z, z = y56d + Int32.ofInt 1 := ⟨_, rfl⟩
              have hz65 : z65.toInt = y56d.toInt + 1 := by rw [ez65]; exact tt_add rfl (by decide) (by omega) (by omega)
              refine lv_iinc (v := z65) (lv' := [(2, .int z65), (0, .ref (A 1)), (1, .ref (adK 1))]) hx hb dX6_isWord_57 hl (k := 0) rfl ez65.symm (by decide) rfl (fun ls hl => ?_)
              refine lv_goto (tgt := 28) hx hb dX6_isWord_60 (by decide) ?_
              exact ih28_56 ls z65 (by have q9 := (show z65.toInt = (y56d.toInt + 1) from hz65); omega) (by have q9 := (show z65.toInt = (y56d.toInt + 1) from hz65); omega) (by have q9 := (show z65.toInt = (y56d.toInt + 1) from hz65); omega) hl
            · refine lv_iconst (v := 0) hx hb dX6_isWord_55 (by decide) ?_
              exact hret _ _ _ _ (0 : Int32) _ dX6_isWord_56 rfl ⟨hI, Un.rf, ⟨by decide, by decide⟩⟩ hH
      exact lp28_56 5 ls 0 (by decide) (by decide) (by have q9 : (0 : Int32).toInt = 0 := (by decide); omega) hl
    · refine lv_iconst (v := 0) hx hb dX6_isWord_24 (by decide) ?_
      exact hret _ _ _ _ (0 : Int32) _ dX6_isWord_25 rfl ⟨hI, Un.rf, ⟨by decide, by decide⟩⟩ hH
set_option maxHeartbeats 4000000 in
set_option maxRecDepth 100000 in
theorem kX6_expect_6 (l : Launch) (D : va_G) (C : Nat → ClassId) (A : Nat → Nat) (u : St) (hI : IC u) (adK adV : Nat → Nat) (sz : Nat) : MetV l yX6_expect cX6_expect 2 6 [.ref (A 1), .ref (adK 1)] D (tyl C) (cw C A) (XS adK adV) u sz (fun u' => IC u' ∧ Un [(2, 2), (3, 3), (4, 4), (5, 5), (6, 6), (7, 7)] [] [] u u' ∧ True) := by
  refine mV (by decide) (Nat.le_of_ble_eq_true rfl) ?_
  intro p e s m below meth c ls ar Q hx hb hml hown hts hK hH hX hl hret
  have hown : s.vm.findClass RX6 = some m.cls := hown
  have hl : lv_has ls 2 [(0, .ref (A 1)), (1, .ref (adK 1))] := hl
  refine lv_aload_n hx hb dX6_expect_0 rfl (lv_at hl 0 rfl) ?_
  refine lv_aload_n hx hb dX6_expect_1 rfl (lv_at hl 1 rfl) ?_
  refine cvI (n := 1) (As := [.ref (adK 1)]) (rest := []) ⟨hx, hb, hml, hown, hts⟩ uc_in (kX6_isWord_11 l D C A u hI  adK adV _) q_m471 q_n473 q_p4 q_i2 q_c474 hvX6_isWord ⟨(Nat.le_of_ble_eq_true rfl), (Nat.le_of_ble_eq_true rfl)⟩ ⟨(Nat.le_of_ble_eq_true rfl), (Nat.le_of_ble_eq_true rfl)⟩ hK hH (fun q h => Or.inr h) BlS (fun U hU hW => hX.at hH hW hU) 6 1 rfl (cwc1 C A u) rfl hl.1 rfl (Nat.le_of_ble_eq_true rfl) dX6_expect_2 (fun r2 u1 H locs p3 hH => ?_)
  obtain ⟨hI, hUu1, p3⟩ := p3
  have p3 : 0 ≤ r2.toInt ∧ r2.toInt ≤ 1 := p3
  refine lv_if_ne (tgt := 13) hx hb dX6_expect_5 (by decide) (fun c4 => ?_) (fun c4 => ?_)
  · have c4 := cNE (x := r2) (y := 0) (X := r2.toInt) (Y := 0) rfl (by decide) c4
    refine lv_aload_n hx hb dX6_expect_13 rfl (lv_at hl 0 rfl) ?_
    refine cvU (n := 0) (As := []) (rest := []) ⟨hx, hb, hml, hown, hts⟩ uc_in (kX6_step_0 l D C A u1 hI  _) q_m444 q_n446 q_p0 q_i2 q_c447 hvX6_step ⟨(Nat.le_of_ble_eq_true rfl), (Nat.le_of_ble_eq_true rfl)⟩ ⟨(Nat.le_of_ble_eq_true rfl), (Nat.le_of_ble_eq_true rfl)⟩ hK hH (fun q h => Or.inr h) Bl0 (fun _ _ _ => trivial) 6 1 rfl (cwc1 C A u1) rfl hl.1 rfl (Nat.le_of_ble_eq_true rfl) dX6_expect_14 (fun u5 H locs p7 hH => ?_)
    obtain ⟨hI, hUu5, p7⟩ := p7
    exact hret _ _ _ _ _ dX6_expect_17 ⟨hI, (Un.tr (Un.tr Un.rf hUu1 rfl rfl rfl) hUu5 rfl rfl rfl), trivial⟩ hH
  · have c4 := cEQ (x := r2) (y := 0) (X := r2.toInt) (Y := 0) rfl (by decide) c4
    refine lv_aload_n hx hb dX6_expect_8 rfl (lv_at hl 0 rfl) ?_
    refine lv_iconst (v := 1) hx hb dX6_expect_9 (by decide) ?_
    refine cvU (n := 1) (As := [.int 1]) (rest := []) ⟨hx, hb, hml, hown, hts⟩ uc_in (kX6_blame_0 l D C A u1 hI  _) q_m523 q_n525 q_p5 q_i2 q_c526 hvX6_blame ⟨(Nat.le_of_ble_eq_true rfl), (Nat.le_of_ble_eq_true rfl)⟩ ⟨(Nat.le_of_ble_eq_true rfl), (Nat.le_of_ble_eq_true rfl)⟩ hK hH (fun q h => Or.inr h) Bl0 (fun _ _ _ => trivial) 6 1 rfl (cwc1 C A u1) rfl hl.1 rfl (Nat.le_of_ble_eq_true rfl) dX6_expect_10 (fun u8 H locs p10 hH => ?_)
    obtain ⟨hI, hUu8, p10⟩ := p10
    refine lv_aload_n hx hb dX6_expect_13 rfl (lv_at hl 0 rfl) ?_
    refine cvU (n := 0) (As := []) (rest := []) ⟨hx, hb, hml, hown, hts⟩ uc_in (kX6_step_0 l D C A u8 hI  _) q_m444 q_n446 q_p0 q_i2 q_c447 hvX6_step ⟨(Nat.le_of_ble_eq_true rfl), (Nat.le_of_ble_eq_true rfl)⟩ ⟨(Nat.le_of_ble_eq_true rfl), (Nat.le_of_ble_eq_true rfl)⟩ hK hH (fun q h => Or.inr h) Bl0 (fun _ _ _ => trivial) 6 1 rfl (cwc1 C A u8) rfl hl.1 rfl (Nat.le_of_ble_eq_true rfl) dX6_expect_14 (fun u11 H locs p13 hH => ?_)
    obtain ⟨hI, hUu11, p13⟩ := p13
    exact hret _ _ _ _ _ dX6_expect_17 ⟨hI, (Un.tr (Un.tr (Un.tr Un.rf hUu1 rfl rfl rfl) hUu8 rfl rfl rfl) hUu11 rfl rfl rfl), trivial⟩ hH
set_option maxHeartbeats 4000000 in
set_option maxRecDepth 100000 in
theorem kX6_isWord_12 (l : Launch) (D : va_G) (C : Nat → ClassId) (A : Nat → Nat) (u : St) (hI : IC u) (adK adV : Nat → Nat) (sz : Nat) : MetI l yX6_isWord cX6_isWord 3 (some .boolean) 5 [.ref (A 1), .ref (adK 2)] D (tyl C) (cw C A) (XS adK adV) u sz (fun r u' => IC u' ∧ Un [] [] [] u u' ∧ (0 ≤ r.toInt ∧ r.toInt ≤ 1)) := by
  refine mI (by decide) (Nat.le_of_ble_eq_true rfl) ?_
  intro p e s m below meth c ls ar Q hx hb hml hown hts hK hH hX hl hret
  have hown : s.vm.findClass RX6 = some m.cls := hown
  have hl : lv_has ls 3 [(0, .ref (A 1)), (1, .ref (adK 2))] := hl
  refine lv_aload_n hx hb dX6_isWord_0 rfl (lv_at hl 0 rfl) ?_
  refine va_get (ci := 6) (v := .int (gi u 6)) (C := RX6) (T := TX6) (N := 8) hx hb hts (fun w h => uc_in w (inX6 w h)) hown hK hH.1 1 (cwc1 C A u) rfl 6 (by decide) (hts _ (uc_in _ q_f42)) (fun _ h9 => h9) rfl dX6_isWord_1 ?_
  refine lv_iconst (v := 2) hx hb dX6_isWord_4 (by decide) ?_
  refine lv_icmp_ne (tgt := 24) hx hb dX6_isWord_5 (by decide) (fun c1 => ?_) (fun c1 => ?_)
  · refine lv_iconst (v := 0) hx hb dX6_isWord_24 (by decide) ?_
    exact hret _ _ _ _ (0 : Int32) _ dX6_isWord_25 rfl ⟨hI, Un.rf, ⟨by decide, by decide⟩⟩ hH
  · have c1 := cEQ (x := (gi u 6)) (y := 2) (X := ((gi u 6)).toInt) (Y := 2) rfl (by decide) c1
    refine lv_aload_n hx hb dX6_isWord_8 rfl (lv_at hl 0 rfl) ?_
    refine va_get (ci := 6) (v := .int (gi u 5)) (C := RX6) (T := TX6) (N := 8) hx hb hts (fun w h => uc_in w (inX6 w h)) hown hK hH.1 1 (cwc1 C A u) rfl 5 (by decide) (hts _ (uc_in _ q_f41)) (fun _ h9 => h9) rfl dX6_isWord_9 ?_
    have b2 := hI.b5
    refine lv_aload_n hx hb dX6_isWord_12 rfl (lv_at hl 0 rfl) ?_
    refine va_get (ci := 6) (v := .int (gi u 4)) (C := RX6) (T := TX6) (N := 8) hx hb hts (fun w h => uc_in w (inX6 w h)) hown hK hH.1 1 (cwc1 C A u) rfl 4 (by decide) (hts _ (uc_in _ q_f40)) (fun _ h9 => h9) rfl dX6_isWord_13 ?_
    have b3 := hI.b4
    refine lv_isub hx hb dX6_isWord_16 ?_
    refine p_nm (tt_sub (X := ((gi u 5)).toInt) (Y := ((gi u 4)).toInt) rfl rfl (by omega) (by omega)) (fun z4 hz4 => ?_)
    refine lv_aload_n hx hb dX6_isWord_17 rfl (lv_at hl 1 rfl) ?_
    refine cvT (n := 0) (As := []) (rest := [.int z4]) ⟨hx, hb, hml, hown, hts⟩ uc_in (kT_length l adK adV 2 (by decide)) blT q_m475 q_n476 q_e477 q_i13 q_c478 hvJ0_length_8abf5 ⟨(Nat.le_of_ble_eq_true rfl), (Nat.le_of_ble_eq_true rfl)⟩ ⟨(Nat.le_of_ble_eq_true rfl), (Nat.le_of_ble_eq_true rfl)⟩ (vk_recv hX.1 (show 2 < 14 by decide) hH.2.2) (fun U hU hW => hX.now hH hW hU) rfl hl.1 rfl (Nat.le_of_ble_eq_true rfl) dX6_isWord_18 (fun r5 p6 => ?_)
    have p6 : r5 = 4 := p6.trans (by decide)
    subst p6
    refine lv_icmp_eq (tgt := 26) hx hb dX6_isWord_21 (by decide) (fun c7 => ?_) (fun c7 => ?_)
    · have c7 := cEQ (x := z4) (y := 4) (X := (((gi u 5)).toInt - ((gi u 4)).toInt)) (Y := 4) hz4 (by decide) c7
      refine lv_iconst (v := 0) hx hb dX6_isWord_26 (by decide) ?_
      refine lv_istore_n (lv' := [(2, .int 0), (0, .ref (A 1)), (1, .ref (adK 2))]) hx hb dX6_isWord_27 rfl hl (by decide) rfl (fun ls hl => ?_)
      have lp28_56 : ∀ (n28 : Nat) (ls : Array Slot) (y56d : Int32), 0 ≤ y56d.toInt → y56d.toInt ≤ 4 → 4 - y56d.toInt < (n28 : Int) → lv_has ls 3 [(2, .int y56d), (0, .ref (A 1)), (1, .ref (adK 2))] → W p l e (rmL 5 0 0) s m ar below meth c s.heap [] 0 0 Q (F0 m 28 ls []) := by
        intro n28
        induction n28 with
        | zero => intro ls y56d ly56d my56d hmun28 hl; exfalso; omega
        | succ n28 ih28_56 =>
          intro ls y56d ly56d my56d hmun28 hl
          refine lv_iload_n hx hb dX6_isWord_28 rfl (lv_at hl 0 rfl) ?_
          refine lv_aload_n hx hb dX6_isWord_29 rfl (lv_at hl 2 rfl) ?_
          refine cvT (n := 0) (As := []) (rest := [.int y56d]) ⟨hx, hb, hml, hown, hts⟩ uc_in (kT_length l adK adV 2 (by decide)) blT q_m475 q_n476 q_e477 q_i13 q_c478 hvJ0_length_8abf5 ⟨(Nat.le_of_ble_eq_true rfl), (Nat.le_of_ble_eq_true rfl)⟩ ⟨(Nat.le_of_ble_eq_true rfl), (Nat.le_of_ble_eq_true rfl)⟩ (vk_recv hX.1 (show 2 < 14 by decide) hH.2.2) (fun U hU hW => hX.now hH hW hU) rfl hl.1 rfl (Nat.le_of_ble_eq_true rfl) dX6_isWord_30 (fun r58 p59 => ?_)
          have p59 : r58 = 4 := p59.trans (by decide)
          subst p59
          refine lv_icmp_ge (tgt := 63) hx hb dX6_isWord_33 (by decide) (fun c60 => ?_) (fun c60 => ?_)
          · have c60 := cLE (x := 4) (y := y56d) (X := 4) (Y := y56d.toInt) (by decide) rfl c60
            refine lv_iconst (v := 1) hx hb dX6_isWord_63 (by decide) ?_
            exact hret _ _ _ _ (1 : Int32) _ dX6_isWord_64 rfl ⟨hI, Un.rf, ⟨by decide, by decide⟩⟩ hH
          · have c60 := cNLE (x := 4) (y := y56d) (X := 4) (Y := y56d.toInt) (by decide) rfl c60
            refine lv_aload_n hx hb dX6_isWord_36 rfl (lv_at hl 1 rfl) ?_
            refine va_get (ci := 6) (v := .ref (A 22)) (C := RX6) (T := TX6) (N := 8) hx hb hts (fun w h => uc_in w (inX6 w h)) hown hK hH.1 1 (cwc1 C A u) rfl 0 (by decide) (hts _ (uc_in _ q_f33)) (fun _ h9 => h9) rfl dX6_isWord_37 ?_
            refine lv_aload_n hx hb dX6_isWord_40 rfl (lv_at hl 1 rfl) ?_
            refine va_get (ci := 6) (v := .int (gi u 4)) (C := RX6) (T := TX6) (N := 8) hx hb hts (fun w h => uc_in w (inX6 w h)) hown hK hH.1 1 (cwc1 C A u) rfl 4 (by decide) (hts _ (uc_in _ q_f40)) (fun _ h9 => h9) rfl dX6_isWord_41 ?_
            refine lv_iload_n hx hb dX6_isWord_44 rfl (lv_at hl 0 rfl) ?_
            refine lv_iadd hx hb dX6_isWord_45 ?_
            refine p_nm (tt_add (X := ((gi u 4)).toInt) (Y := y56d.toInt) rfl rfl (by omega) (by omega)) (fun z61 hz61 => ?_)
            refine va_bald hx hb hK hH.1 22 0 (cwc22 C A u) rfl (i_ix hz61 (by omega) (by omega)) dX6_isWord_46 ?_
            refine p_any (fun z62 => ?_)
            refine lv_aload_n hx hb dX6_isWord_47 rfl (lv_at hl 2 rfl) ?_
            refine lv_iload_n hx hb dX6_isWord_48 rfl (lv_at hl 0 rfl) ?_
            refine cvT (n := 1) (As := [.int y56d]) (rest := [.int z62]) ⟨hx, hb, hml, hown, hts⟩ uc_in (kT_charAt l adK adV 2 (by decide) y56d (show vp_in y56d 4 from i_ix rfl (by omega) (by omega))) blT q_m485 q_n486 q_e487 q_i13 q_c488 hvJ0_charAt_5068e ⟨(Nat.le_of_ble_eq_true rfl), (Nat.le_of_ble_eq_true rfl)⟩ ⟨(Nat.le_of_ble_eq_true rfl), (Nat.le_of_ble_eq_true rfl)⟩ (vk_recv hX.1 (show 2 < 14 by decide) hH.2.2) (fun U hU hW => hX.now hH hW hU) rfl hl.1 rfl (Nat.le_of_ble_eq_true rfl) dX6_isWord_49 (fun r63 _ => ?_)
            refine lv_icmp_eq (tgt := 57) hx hb dX6_isWord_52 (by decide) (fun c64 => ?_) (fun c64 => ?_)
            · have c64 := cEQ (x := z62) (y := r63) (X := z62.toInt) (Y := r63.toInt) rfl rfl c64
              obtain ⟨z65, ez65⟩ : ∃ z, z = y56d + Int32.ofInt 1 := ⟨_, rfl⟩
              have hz65 : z65.toInt = y56d.toInt + 1 := by rw [ez65]; exact tt_add rfl (by decide) (by omega) (by omega)
              refine lv_iinc (v := z65) (lv' := [(2, .int z65), (0, .ref (A 1)), (1, .ref (adK 2))]) hx hb dX6_isWord_57 hl (k := 0) rfl ez65.symm (by decide) rfl (fun ls hl => ?_)
              refine lv_goto (tgt := 28) hx hb dX6_isWord_60 (by decide) ?_
              exact ih28_56 ls z65 (by have q9 := (show z65.toInt = (y56d.toInt + 1) from hz65); omega) (by have q9 := (show z65.toInt = (y56d.toInt + 1) from hz65); omega) (by have q9 := (show z65.toInt = (y56d.toInt + 1) from hz65); omega) hl
            · refine lv_iconst (v := 0) hx hb dX6_isWord_55 (by decide) ?_
              exact hret _ _ _ _ (0 : Int32) _ dX6_isWord_56 rfl ⟨hI, Un.rf, ⟨by decide, by decide⟩⟩ hH
      exact lp28_56 5 ls 0 (by decide) (by decide) (by have q9 : (0 : Int32).toInt = 0 := (by decide); omega) hl
    · refine lv_iconst (v := 0) hx hb dX6_isWord_24 (by decide) ?_
      exact hret _ _ _ _ (0 : Int32) _ dX6_isWord_25 rfl ⟨hI, Un.rf, ⟨by decide, by decide⟩⟩ hH
set_option maxHeartbeats 4000000 in
set_option maxRecDepth 100000 in
theorem kX6_expect_7 (l : Launch) (D : va_G) (C : Nat → ClassId) (A : Nat → Nat) (u : St) (hI : IC u) (adK adV : Nat → Nat) (sz : Nat) : MetV l yX6_expect cX6_expect 2 6 [.ref (A 1), .ref (adK 2)] D (tyl C) (cw C A) (XS adK adV) u sz (fun u' => IC u' ∧ Un [(2, 2), (3, 3), (4, 4), (5, 5), (6, 6), (7, 7)] [] [] u u' ∧ True) := by
  refine mV (by decide) (Nat.le_of_ble_eq_true rfl) ?_
  intro p e s m below meth c ls ar Q hx hb hml hown hts hK hH hX hl hret
  have hown : s.vm.findClass RX6 = some m.cls := hown
  have hl : lv_has ls 2 [(0, .ref (A 1)), (1, .ref (adK 2))] := hl
  refine lv_aload_n hx hb dX6_expect_0 rfl (lv_at hl 0 rfl) ?_
  refine lv_aload_n hx hb dX6_expect_1 rfl (lv_at hl 1 rfl) ?_
  refine cvI (n := 1) (As := [.ref (adK 2)]) (rest := []) ⟨hx, hb, hml, hown, hts⟩ uc_in (kX6_isWord_12 l D C A u hI  adK adV _) q_m471 q_n473 q_p4 q_i2 q_c474 hvX6_isWord ⟨(Nat.le_of_ble_eq_true rfl), (Nat.le_of_ble_eq_true rfl)⟩ ⟨(Nat.le_of_ble_eq_true rfl), (Nat.le_of_ble_eq_true rfl)⟩ hK hH (fun q h => Or.inr h) BlS (fun U hU hW => hX.at hH hW hU) 6 1 rfl (cwc1 C A u) rfl hl.1 rfl (Nat.le_of_ble_eq_true rfl) dX6_expect_2 (fun r2 u1 H locs p3 hH => ?_)
  obtain ⟨hI, hUu1, p3⟩ := p3
  have p3 : 0 ≤ r2.toInt ∧ r2.toInt ≤ 1 := p3
  refine lv_if_ne (tgt := 13) hx hb dX6_expect_5 (by decide) (fun c4 => ?_) (fun c4 => ?_)
  · have c4 := cNE (x := r2) (y := 0) (X := r2.toInt) (Y := 0) rfl (by decide) c4
    refine lv_aload_n hx hb dX6_expect_13 rfl (lv_at hl 0 rfl) ?_
    refine cvU (n := 0) (As := []) (rest := []) ⟨hx, hb, hml, hown, hts⟩ uc_in (kX6_step_0 l D C A u1 hI  _) q_m444 q_n446 q_p0 q_i2 q_c447 hvX6_step ⟨(Nat.le_of_ble_eq_true rfl), (Nat.le_of_ble_eq_true rfl)⟩ ⟨(Nat.le_of_ble_eq_true rfl), (Nat.le_of_ble_eq_true rfl)⟩ hK hH (fun q h => Or.inr h) Bl0 (fun _ _ _ => trivial) 6 1 rfl (cwc1 C A u1) rfl hl.1 rfl (Nat.le_of_ble_eq_true rfl) dX6_expect_14 (fun u5 H locs p7 hH => ?_)
    obtain ⟨hI, hUu5, p7⟩ := p7
    exact hret _ _ _ _ _ dX6_expect_17 ⟨hI, (Un.tr (Un.tr Un.rf hUu1 rfl rfl rfl) hUu5 rfl rfl rfl), trivial⟩ hH
  · have c4 := cEQ (x := r2) (y := 0) (X := r2.toInt) (Y := 0) rfl (by decide) c4
    refine lv_aload_n hx hb dX6_expect_8 rfl (lv_at hl 0 rfl) ?_
    refine lv_iconst (v := 1) hx hb dX6_expect_9 (by decide) ?_
    refine cvU (n := 1) (As := [.int 1]) (rest := []) ⟨hx, hb, hml, hown, hts⟩ uc_in (kX6_blame_0 l D C A u1 hI  _) q_m523 q_n525 q_p5 q_i2 q_c526 hvX6_blame ⟨(Nat.le_of_ble_eq_true rfl), (Nat.le_of_ble_eq_true rfl)⟩ ⟨(Nat.le_of_ble_eq_true rfl), (Nat.le_of_ble_eq_true rfl)⟩ hK hH (fun q h => Or.inr h) Bl0 (fun _ _ _ => trivial) 6 1 rfl (cwc1 C A u1) rfl hl.1 rfl (Nat.le_of_ble_eq_true rfl) dX6_expect_10 (fun u8 H locs p10 hH => ?_)
    obtain ⟨hI, hUu8, p10⟩ := p10
    refine lv_aload_n hx hb dX6_expect_13 rfl (lv_at hl 0 rfl) ?_
    refine cvU (n := 0) (As := []) (rest := []) ⟨hx, hb, hml, hown, hts⟩ uc_in (kX6_step_0 l D C A u8 hI  _) q_m444 q_n446 q_p0 q_i2 q_c447 hvX6_step ⟨(Nat.le_of_ble_eq_true rfl), (Nat.le_of_ble_eq_true rfl)⟩ ⟨(Nat.le_of_ble_eq_true rfl), (Nat.le_of_ble_eq_true rfl)⟩ hK hH (fun q h => Or.inr h) Bl0 (fun _ _ _ => trivial) 6 1 rfl (cwc1 C A u8) rfl hl.1 rfl (Nat.le_of_ble_eq_true rfl) dX6_expect_14 (fun u11 H locs p13 hH => ?_)
    obtain ⟨hI, hUu11, p13⟩ := p13
    exact hret _ _ _ _ _ dX6_expect_17 ⟨hI, (Un.tr (Un.tr (Un.tr Un.rf hUu1 rfl rfl rfl) hUu8 rfl rfl rfl) hUu11 rfl rfl rfl), trivial⟩ hH
set_option maxHeartbeats 4000000 in
set_option maxRecDepth 100000 in
theorem kX6_isWord_13 (l : Launch) (D : va_G) (C : Nat → ClassId) (A : Nat → Nat) (u : St) (hI : IC u) (adK adV : Nat → Nat) (sz : Nat) : MetI l yX6_isWord cX6_isWord 3 (some .boolean) 5 [.ref (A 1), .ref (adK 3)] D (tyl C) (cw C A) (XS adK adV) u sz (fun r u' => IC u' ∧ Un [] [] [] u u' ∧ (0 ≤ r.toInt ∧ r.toInt ≤ 1)) := by
  refine mI (by decide) (Nat.le_of_ble_eq_true rfl) ?_
  intro p e s m below meth c ls ar Q hx hb hml hown hts hK hH hX hl hret
  have hown : s.vm.findClass RX6 = some m.cls := hown
  have hl : lv_has ls 3 [(0, .ref (A 1)), (1, .ref (adK 3))] := hl
  refine lv_aload_n hx hb dX6_isWord_0 rfl (lv_at hl 0 rfl) ?_
  refine va_get (ci := 6) (v := .int (gi u 6)) (C := RX6) (T := TX6) (N := 8) hx hb hts (fun w h => uc_in w (inX6 w h)) hown hK hH.1 1 (cwc1 C A u) rfl 6 (by decide) (hts _ (uc_in _ q_f42)) (fun _ h9 => h9) rfl dX6_isWord_1 ?_
  refine lv_iconst (v := 2) hx hb dX6_isWord_4 (by decide) ?_
  refine lv_icmp_ne (tgt := 24) hx hb dX6_isWord_5 (by decide) (fun c1 => ?_) (fun c1 => ?_)
  · refine lv_iconst (v := 0) hx hb dX6_isWord_24 (by decide) ?_
    exact hret _ _ _ _ (0 : Int32) _ dX6_isWord_25 rfl ⟨hI, Un.rf, ⟨by decide, by decide⟩⟩ hH
  · have c1 := cEQ (x := (gi u 6)) (y := 2) (X := ((gi u 6)).toInt) (Y := 2) rfl (by decide) c1
    refine lv_aload_n hx hb dX6_isWord_8 rfl (lv_at hl 0 rfl) ?_
    refine va_get (ci := 6) (v := .int (gi u 5)) (C := RX6) (T := TX6) (N := 8) hx hb hts (fun w h => uc_in w (inX6 w h)) hown hK hH.1 1 (cwc1 C A u) rfl 5 (by decide) (hts _ (uc_in _ q_f41)) (fun _ h9 => h9) rfl dX6_isWord_9 ?_
    have b2 := hI.b5
    refine lv_aload_n hx hb dX6_isWord_12 rfl (lv_at hl 0 rfl) ?_
    refine va_get (ci := 6) (v := .int (gi u 4)) (C := RX6) (T := TX6) (N := 8) hx hb hts (fun w h => uc_in w (inX6 w h)) hown hK hH.1 1 (cwc1 C A u) rfl 4 (by decide) (hts _ (uc_in _ q_f40)) (fun _ h9 => h9) rfl dX6_isWord_13 ?_
    have b3 := hI.b4
    refine lv_isub hx hb dX6_isWord_16 ?_
    refine p_nm (tt_sub (X := ((gi u 5)).toInt) (Y := ((gi u 4)).toInt) rfl rfl (by omega) (by omega)) (fun z4 hz4 => ?_)
    refine lv_aload_n hx hb dX6_isWord_17 rfl (lv_at hl 1 rfl) ?_
    refine cvT (n := 0) (As := []) (rest := [.int z4]) ⟨hx, hb, hml, hown, hts⟩ uc_in (kT_length l adK adV 3 (by decide)) blT q_m475 q_n476 q_e477 q_i13 q_c478 hvJ0_length_8abf5 ⟨(Nat.le_of_ble_eq_true rfl), (Nat.le_of_ble_eq_true rfl)⟩ ⟨(Nat.le_of_ble_eq_true rfl), (Nat.le_of_ble_eq_true rfl)⟩ (vk_recv hX.1 (show 3 < 14 by decide) hH.2.2) (fun U hU hW => hX.now hH hW hU) rfl hl.1 rfl (Nat.le_of_ble_eq_true rfl) dX6_isWord_18 (fun r5 p6 => ?_)
    have p6 : r5 = 4 := p6.trans (by decide)
    subst p6
    refine lv_icmp_eq (tgt := 26) hx hb dX6_isWord_21 (by decide) (fun c7 => ?_) (fun c7 => ?_)
    · have c7 := cEQ (x := z4) (y := 4) (X := (((gi u 5)).toInt - ((gi u 4)).toInt)) (Y := 4) hz4 (by decide) c7
      refine lv_iconst (v := 0) hx hb dX6_isWord_26 (by decide) ?_
      refine lv_istore_n (lv' := [(2, .int 0), (0, .ref (A 1)), (1, .ref (adK 3))]) hx hb dX6_isWord_27 rfl hl (by decide) rfl (fun ls hl => ?_)
      have lp28_56 : ∀ (n28 : Nat) (ls : Array Slot) (y56d : Int32), 0 ≤ y56d.toInt → y56d.toInt ≤ 4 → 4 - y56d.toInt < (n28 : Int) → lv_has ls 3 [(2, .int y56d), (0, .ref (A 1)), (1, .ref (adK 3))] → W p l e (rmL 5 0 0) s m ar below meth c s.heap [] 0 0 Q (F0 m 28 ls []) := by
        intro n28
        induction n28 with
        | zero => intro ls y56d ly56d my56d hmun28 hl; exfalso; omega
        | succ n28 ih28_56 =>
          intro ls y56d ly56d my56d hmun28 hl
          refine lv_iload_n hx hb dX6_isWord_28 rfl (lv_at hl 0 rfl) ?_
          refine lv_aload_n hx hb dX6_isWord_29 rfl (lv_at hl 2 rfl) ?_
          refine cvT (n := 0) (As := []) (rest := [.int y56d]) ⟨hx, hb, hml, hown, hts⟩ uc_in (kT_length l adK adV 3 (by decide)) blT q_m475 q_n476 q_e477 q_i13 q_c478 hvJ0_length_8abf5 ⟨(Nat.le_of_ble_eq_true rfl), (Nat.le_of_ble_eq_true rfl)⟩ ⟨(Nat.le_of_ble_eq_true rfl), (Nat.le_of_ble_eq_true rfl)⟩ (vk_recv hX.1 (show 3 < 14 by decide) hH.2.2) (fun U hU hW => hX.now hH hW hU) rfl hl.1 rfl (Nat.le_of_ble_eq_true rfl) dX6_isWord_30 (fun r58 p59 => ?_)
          have p59 : r58 = 4 := p59.trans (by decide)
          subst p59
          refine lv_icmp_ge (tgt := 63) hx hb dX6_isWord_33 (by decide) (fun c60 => ?_) (fun c60 => ?_)
          · have c60 := cLE (x := 4) (y := y56d) (X := 4) (Y := y56d.toInt) (by decide) rfl c60
            refine lv_iconst (v := 1) hx hb dX6_isWord_63 (by decide) ?_
            exact hret _ _ _ _ (1 : Int32) _ dX6_isWord_64 rfl ⟨hI, Un.rf, ⟨by decide, by decide⟩⟩ hH
          · have c60 := cNLE (x := 4) (y := y56d) (X := 4) (Y := y56d.toInt) (by decide) rfl c60
            refine lv_aload_n hx hb dX6_isWord_36 rfl (lv_at hl 1 rfl) ?_
            refine va_get (ci := 6) (v := .ref (A 22)) (C := RX6) (T := TX6) (N := 8) hx hb hts (fun w h => uc_in w (inX6 w h)) hown hK hH.1 1 (cwc1 C A u) rfl 0 (by decide) (hts _ (uc_in _ q_f33)) (fun _ h9 => h9) rfl dX6_isWord_37 ?_
            refine lv_aload_n hx hb dX6_isWord_40 rfl (lv_at hl 1 rfl) ?_
            refine va_get (ci := 6) (v := .int (gi u 4)) (C := RX6) (T := TX6) (N := 8) hx hb hts (fun w h => uc_in w (inX6 w h)) hown hK hH.1 1 (cwc1 C A u) rfl 4 (by decide) (hts _ (uc_in _ q_f40)) (fun _ h9 => h9) rfl dX6_isWord_41 ?_
            refine lv_iload_n hx hb dX6_isWord_44 rfl (lv_at hl 0 rfl) ?_
            refine lv_iadd hx hb dX6_isWord_45 ?_
            refine p_nm (tt_add (X := ((gi u 4)).toInt) (Y := y56d.toInt) rfl rfl (by omega) (by omega)) (fun z61 hz61 => ?_)
            refine va_bald hx hb hK hH.1 22 0 (cwc22 C A u) rfl (i_ix hz61 (by omega) (by omega)) dX6_isWord_46 ?_
            refine p_any (fun z62 => ?_)
            refine lv_aload_n hx hb dX6_isWord_47 rfl (lv_at hl 2 rfl) ?_
            refine lv_iload_n hx hb dX6_isWord_48 rfl (lv_at hl 0 rfl) ?_
            refine cvT (n := 1) (As := [.int y56d]) (rest := [.int z62]) ⟨hx, hb, hml, hown, hts⟩ uc_in (kT_charAt l adK adV 3 (by decide) y56d (show vp_in y56d 4 from i_ix rfl (by omega) (by omega))) blT q_m485 q_n486 q_e487 q_i13 q_c488 hvJ0_charAt_5068e ⟨(Nat.le_of_ble_eq_true rfl), (Nat.le_of_ble_eq_true rfl)⟩ ⟨(Nat.le_of_ble_eq_true rfl), (Nat.le_of_ble_eq_true rfl)⟩ (vk_recv hX.1 (show 3 < 14 by decide) hH.2.2) (fun U hU hW => hX.now hH hW hU) rfl hl.1 rfl (Nat.le_of_ble_eq_true rfl) dX6_isWord_49 (fun r63 _ => ?_)
            refine lv_icmp_eq (tgt := 57) hx hb dX6_isWord_52 (by decide) (fun c64 => ?_) (fun c64 => ?_)
            · have c64 := cEQ (x := z62) (y := r63) (X := z62.toInt) (Y := r63.toInt) rfl rfl c64
              obtain ⟨z65, ez65⟩ : ∃ z, z = y56d + Int32.ofInt 1 := ⟨_, rfl⟩
              have hz65 : z65.toInt = y56d.toInt + 1 := by rw [ez65]; exact tt_add rfl (by decide) (by omega) (by omega)
              refine lv_iinc (v := z65) (lv' := [(2, .int z65), (0, .ref (A 1)), (1, .ref (adK 3))]) hx hb dX6_isWord_57 hl (k := 0) rfl ez65.symm (by decide) rfl (fun ls hl => ?_)
              refine lv_goto (tgt := 28) hx hb dX6_isWord_60 (by decide) ?_
              exact ih28_56 ls z65 (by have q9 := (show z65.toInt = (y56d.toInt + 1) from hz65); omega) (by have q9 := (show z65.toInt = (y56d.toInt + 1) from hz65); omega) (by have q9 := (show z65.toInt = (y56d.toInt + 1) from hz65); omega) hl
            · refine lv_iconst (v := 0) hx hb dX6_isWord_55 (by decide) ?_
              exact hret _ _ _ _ (0 : Int32) _ dX6_isWord_56 rfl ⟨hI, Un.rf, ⟨by decide, by decide⟩⟩ hH
      exact lp28_56 5 ls 0 (by decide) (by decide) (by have q9 : (0 : Int32).toInt = 0 := (by decide); omega) hl
    · refine lv_iconst (v := 0) hx hb dX6_isWord_24 (by decide) ?_
      exact hret _ _ _ _ (0 : Int32) _ dX6_isWord_25 rfl ⟨hI, Un.rf, ⟨by decide, by decide⟩⟩ hH
set_option maxHeartbeats 4000000 in
set_option maxRecDepth 100000 in
theorem kX6_expect_8 (l : Launch) (D : va_G) (C : Nat → ClassId) (A : Nat → Nat) (u : St) (hI : IC u) (adK adV : Nat → Nat) (sz : Nat) : MetV l yX6_expect cX6_expect 2 6 [.ref (A 1), .ref (adK 3)] D (tyl C) (cw C A) (XS adK adV) u sz (fun u' => IC u' ∧ Un [(2, 2), (3, 3), (4, 4), (5, 5), (6, 6), (7, 7)] [] [] u u' ∧ True) := by
  refine mV (by decide) (Nat.le_of_ble_eq_true rfl) ?_
  intro p e s m below meth c ls ar Q hx hb hml hown hts hK hH hX hl hret
  have hown : s.vm.findClass RX6 = some m.cls := hown
  have hl : lv_has ls 2 [(0, .ref (A 1)), (1, .ref (adK 3))] := hl
  refine lv_aload_n hx hb dX6_expect_0 rfl (lv_at hl 0 rfl) ?_
  refine lv_aload_n hx hb dX6_expect_1 rfl (lv_at hl 1 rfl) ?_
  refine cvI (n := 1) (As := [.ref (adK 3)]) (rest := []) ⟨hx, hb, hml, hown, hts⟩ uc_in (kX6_isWord_13 l D C A u hI  adK adV _) q_m471 q_n473 q_p4 q_i2 q_c474 hvX6_isWord ⟨(Nat.le_of_ble_eq_true rfl), (Nat.le_of_ble_eq_true rfl)⟩ ⟨(Nat.le_of_ble_eq_true rfl), (Nat.le_of_ble_eq_true rfl)⟩ hK hH (fun q h => Or.inr h) BlS (fun U hU hW => hX.at hH hW hU) 6 1 rfl (cwc1 C A u) rfl hl.1 rfl (Nat.le_of_ble_eq_true rfl) dX6_expect_2 (fun r2 u1 H locs p3 hH => ?_)
  obtain ⟨hI, hUu1, p3⟩ := p3
  have p3 : 0 ≤ r2.toInt ∧ r2.toInt ≤ 1 := p3
  refine lv_if_ne (tgt := 13) hx hb dX6_expect_5 (by decide) (fun c4 => ?_) (fun c4 => ?_)
  · have c4 := cNE (x := r2) (y := 0) (X := r2.toInt) (Y := 0) rfl (by decide) c4
    refine lv_aload_n hx hb dX6_expect_13 rfl (lv_at hl 0 rfl) ?_
    refine cvU (n := 0) (As := []) (rest := []) ⟨hx, hb, hml, hown, hts⟩ uc_in (kX6_step_0 l D C A u1 hI  _) q_m444 q_n446 q_p0 q_i2 q_c447 hvX6_step ⟨(Nat.le_of_ble_eq_true rfl), (Nat.le_of_ble_eq_true rfl)⟩ ⟨(Nat.le_of_ble_eq_true rfl), (Nat.le_of_ble_eq_true rfl)⟩ hK hH (fun q h => Or.inr h) Bl0 (fun _ _ _ => trivial) 6 1 rfl (cwc1 C A u1) rfl hl.1 rfl (Nat.le_of_ble_eq_true rfl) dX6_expect_14 (fun u5 H locs p7 hH => ?_)
    obtain ⟨hI, hUu5, p7⟩ := p7
    exact hret _ _ _ _ _ dX6_expect_17 ⟨hI, (Un.tr (Un.tr Un.rf hUu1 rfl rfl rfl) hUu5 rfl rfl rfl), trivial⟩ hH
  · have c4 := cEQ (x := r2) (y := 0) (X := r2.toInt) (Y := 0) rfl (by decide) c4
    refine lv_aload_n hx hb dX6_expect_8 rfl (lv_at hl 0 rfl) ?_
    refine lv_iconst (v := 1) hx hb dX6_expect_9 (by decide) ?_
    refine cvU (n := 1) (As := [.int 1]) (rest := []) ⟨hx, hb, hml, hown, hts⟩ uc_in (kX6_blame_0 l D C A u1 hI  _) q_m523 q_n525 q_p5 q_i2 q_c526 hvX6_blame ⟨(Nat.le_of_ble_eq_true rfl), (Nat.le_of_ble_eq_true rfl)⟩ ⟨(Nat.le_of_ble_eq_true rfl), (Nat.le_of_ble_eq_true rfl)⟩ hK hH (fun q h => Or.inr h) Bl0 (fun _ _ _ => trivial) 6 1 rfl (cwc1 C A u1) rfl hl.1 rfl (Nat.le_of_ble_eq_true rfl) dX6_expect_10 (fun u8 H locs p10 hH => ?_)
    obtain ⟨hI, hUu8, p10⟩ := p10
    refine lv_aload_n hx hb dX6_expect_13 rfl (lv_at hl 0 rfl) ?_
    refine cvU (n := 0) (As := []) (rest := []) ⟨hx, hb, hml, hown, hts⟩ uc_in (kX6_step_0 l D C A u8 hI  _) q_m444 q_n446 q_p0 q_i2 q_c447 hvX6_step ⟨(Nat.le_of_ble_eq_true rfl), (Nat.le_of_ble_eq_true rfl)⟩ ⟨(Nat.le_of_ble_eq_true rfl), (Nat.le_of_ble_eq_true rfl)⟩ hK hH (fun q h => Or.inr h) Bl0 (fun _ _ _ => trivial) 6 1 rfl (cwc1 C A u8) rfl hl.1 rfl (Nat.le_of_ble_eq_true rfl) dX6_expect_14 (fun u11 H locs p13 hH => ?_)
    obtain ⟨hI, hUu11, p13⟩ := p13
    exact hret _ _ _ _ _ dX6_expect_17 ⟨hI, (Un.tr (Un.tr (Un.tr Un.rf hUu1 rfl rfl rfl) hUu8 rfl rfl rfl) hUu11 rfl rfl rfl), trivial⟩ hH
set_option maxHeartbeats 4000000 in
set_option maxRecDepth 100000 in
theorem kX6_readTown_0 (l : Launch) (D : va_G) (C : Nat → ClassId) (A : Nat → Nat) (u : St) (hI : IC u) (adK adV : Nat → Nat) (sz : Nat) : MetV l yX6_readTown cX6_readTown 2 7 [.ref (A 1), .ref (A 3)] D (tyl C) (cw C A) (XS adK adV) u sz (fun u' => IC u' ∧ Un [(2, 2), (3, 3), (4, 4), (5, 5), (6, 6), (7, 7), (17, 17), (18, 18), (19, 19)] [] [] u u' ∧ True) := by
  refine mV (by decide) (Nat.le_of_ble_eq_true rfl) ?_
  intro p e s m below meth c ls ar Q hx hb hml hown hts hK hH hX hl hret
  have hown : s.vm.findClass RX6 = some m.cls := hown
  have hl : lv_has ls 2 [(0, .ref (A 1)), (1, .ref (A 3))] := hl
  refine lv_aload_n hx hb dX6_readTown_0 rfl (lv_at hl 0 rfl) ?_
  refine va_ldcS hx hb hown (show vk_R RX6 67 "town" (adK 0) s from hX.2.1 0 (by decide)) dX6_readTown_1 ?_
  refine cvU (n := 1) (As := [.ref (adK 0)]) (rest := []) ⟨hx, hb, hml, hown, hts⟩ uc_in (kX6_expect_5 l D C A u hI  adK adV _) q_m467 q_n469 q_p3 q_i2 q_c470 hvX6_expect ⟨(Nat.le_of_ble_eq_true rfl), (Nat.le_of_ble_eq_true rfl)⟩ ⟨(Nat.le_of_ble_eq_true rfl), (Nat.le_of_ble_eq_true rfl)⟩ hK hH (fun q h => Or.inr h) BlS (fun U hU hW => hX.at hH hW hU) 6 1 rfl (cwc1 C A u) rfl hl.1 rfl (Nat.le_of_ble_eq_true rfl) dX6_readTown_3 (fun u1 H locs p3 hH => ?_)
  obtain ⟨hI, hUu1, p3⟩ := p3
  refine lv_aload_n hx hb dX6_readTown_6 rfl (lv_at hl 0 rfl) ?_
  refine va_ldcS hx hb hown (show vk_R RX6 73 "days" (adK 1) s from hX.2.1 1 (by decide)) dX6_readTown_7 ?_
  refine cvU (n := 1) (As := [.ref (adK 1)]) (rest := []) ⟨hx, hb, hml, hown, hts⟩ uc_in (kX6_expect_6 l D C A u1 hI  adK adV _) q_m467 q_n469 q_p3 q_i2 q_c470 hvX6_expect ⟨(Nat.le_of_ble_eq_true rfl), (Nat.le_of_ble_eq_true rfl)⟩ ⟨(Nat.le_of_ble_eq_true rfl), (Nat.le_of_ble_eq_true rfl)⟩ hK hH (fun q h => Or.inr h) BlS (fun U hU hW => hX.at hH hW hU) 6 1 rfl (cwc1 C A u1) rfl hl.1 rfl (Nat.le_of_ble_eq_true rfl) dX6_readTown_9 (fun u4 H locs p6 hH => ?_)
  obtain ⟨hI, hUu4, p6⟩ := p6
  refine lv_aload_n hx hb dX6_readTown_12 rfl (lv_at hl 1 rfl) ?_
  refine lv_aload_n hx hb dX6_readTown_13 rfl (lv_at hl 0 rfl) ?_
  refine lv_iconst (v := 1) hx hb dX6_readTown_14 (by decide) ?_
  refine lv_bipush (v := 7) hx hb dX6_readTown_15 (by decide) ?_
  refine cvI (n := 2) (As := [.int 1, .int 7]) (rest := [.ref (A 3)]) ⟨hx, hb, hml, hown, hts⟩ uc_in (kX6_numeral_0 l D C A u4 hI (1) 1 (by decide) (7) 7 (by decide) _) q_m528 q_n530 q_p6 q_i2 q_c531 hvX6_numeral ⟨(Nat.le_of_ble_eq_true rfl), (Nat.le_of_ble_eq_true rfl)⟩ ⟨(Nat.le_of_ble_eq_true rfl), (Nat.le_of_ble_eq_true rfl)⟩ hK hH (fun q h => Or.inr h) Bl0 (fun _ _ _ => trivial) 6 1 rfl (cwc1 C A u4) rfl hl.1 rfl (Nat.le_of_ble_eq_true rfl) dX6_readTown_17 (fun r8 u7 H locs p9 hH => ?_)
  obtain ⟨hI, hUu7, p9⟩ := p9
  refine r_put (j := 17) (ci := 7) (C := RX7) (T := TX7) (N := 16) hx hb hts (fun w h => uc_in w (inX7 w h)) tyX7 tyX7_ok nmX7 hown hK hH 3 (cwc3 C A u7) rfl 1 (by decide) (hts _ (uc_in _ q_f73)) (fun _ h9 => h9) rfl (by decide +kernel) (Nat.le_of_ble_eq_true rfl) (cws17 C A u7 _) dX6_readTown_20 (fun u10 eu10 H locs hH => ?_)
  have hI := hI.ddays eu10 (fun h => by have q9 := p9 h; omega)
  refine lv_aload_n hx hb dX6_readTown_23 rfl (lv_at hl 0 rfl) ?_
  refine va_ldcS hx hb hown (show vk_R RX6 81 "home" (adK 2) s from hX.2.1 2 (by decide)) dX6_readTown_24 ?_
  refine cvU (n := 1) (As := [.ref (adK 2)]) (rest := []) ⟨hx, hb, hml, hown, hts⟩ uc_in (kX6_expect_7 l D C A u10 hI  adK adV _) q_m467 q_n469 q_p3 q_i2 q_c470 hvX6_expect ⟨(Nat.le_of_ble_eq_true rfl), (Nat.le_of_ble_eq_true rfl)⟩ ⟨(Nat.le_of_ble_eq_true rfl), (Nat.le_of_ble_eq_true rfl)⟩ hK hH (fun q h => Or.inr h) BlS (fun U hU hW => hX.at hH hW hU) 6 1 rfl (cwc1 C A u10) rfl hl.1 rfl (Nat.le_of_ble_eq_true rfl) dX6_readTown_26 (fun u11 H locs p13 hH => ?_)
  obtain ⟨hI, hUu11, p13⟩ := p13
  refine lv_aload_n hx hb dX6_readTown_29 rfl (lv_at hl 1 rfl) ?_
  refine lv_aload_n hx hb dX6_readTown_30 rfl (lv_at hl 0 rfl) ?_
  refine lv_iconst (v := 0) hx hb dX6_readTown_31 (by decide) ?_
  refine lv_bipush (v := 9) hx hb dX6_readTown_32 (by decide) ?_
  refine cvI (n := 2) (As := [.int 0, .int 9]) (rest := [.ref (A 3)]) ⟨hx, hb, hml, hown, hts⟩ uc_in (kX6_numeral_0 l D C A u11 hI (0) 0 (by decide) (9) 9 (by decide) _) q_m528 q_n530 q_p6 q_i2 q_c531 hvX6_numeral ⟨(Nat.le_of_ble_eq_true rfl), (Nat.le_of_ble_eq_true rfl)⟩ ⟨(Nat.le_of_ble_eq_true rfl), (Nat.le_of_ble_eq_true rfl)⟩ hK hH (fun q h => Or.inr h) Bl0 (fun _ _ _ => trivial) 6 1 rfl (cwc1 C A u11) rfl hl.1 rfl (Nat.le_of_ble_eq_true rfl) dX6_readTown_34 (fun r15 u14 H locs p16 hH => ?_)
  obtain ⟨hI, hUu14, p16⟩ := p16
  refine r_put (j := 18) (ci := 7) (C := RX7) (T := TX7) (N := 16) hx hb hts (fun w h => uc_in w (inX7 w h)) tyX7 tyX7_ok nmX7 hown hK hH 3 (cwc3 C A u14) rfl 2 (by decide) (hts _ (uc_in _ q_f76)) (fun _ h9 => h9) rfl (by decide +kernel) (Nat.le_of_ble_eq_true rfl) (cws18 C A u14 _) dX6_readTown_37 (fun u17 eu17 H locs hH => ?_)
  have hI := hI.pi0 eu17 rfl (by decide) (by decide)
  refine lv_aload_n hx hb dX6_readTown_40 rfl (lv_at hl 0 rfl) ?_
  refine va_ldcS hx hb hown (show vk_R RX6 85 "odds" (adK 3) s from hX.2.1 3 (by decide)) dX6_readTown_41 ?_
  refine cvU (n := 1) (As := [.ref (adK 3)]) (rest := []) ⟨hx, hb, hml, hown, hts⟩ uc_in (kX6_expect_8 l D C A u17 hI  adK adV _) q_m467 q_n469 q_p3 q_i2 q_c470 hvX6_expect ⟨(Nat.le_of_ble_eq_true rfl), (Nat.le_of_ble_eq_true rfl)⟩ ⟨(Nat.le_of_ble_eq_true rfl), (Nat.le_of_ble_eq_true rfl)⟩ hK hH (fun q h => Or.inr h) BlS (fun U hU hW => hX.at hH hW hU) 6 1 rfl (cwc1 C A u17) rfl hl.1 rfl (Nat.le_of_ble_eq_true rfl) dX6_readTown_43 (fun u18 H locs p20 hH => ?_)
  obtain ⟨hI, hUu18, p20⟩ := p20
  refine lv_aload_n hx hb dX6_readTown_46 rfl (lv_at hl 1 rfl) ?_
  refine lv_aload_n hx hb dX6_readTown_47 rfl (lv_at hl 0 rfl) ?_
  refine lv_iconst (v := 0) hx hb dX6_readTown_48 (by decide) ?_
  refine lv_bipush (v := 10) hx hb dX6_readTown_49 (by decide) ?_
  refine cvI (n := 2) (As := [.int 0, .int 10]) (rest := [.ref (A 3)]) ⟨hx, hb, hml, hown, hts⟩ uc_in (kX6_numeral_0 l D C A u18 hI (0) 0 (by decide) (10) 10 (by decide) _) q_m528 q_n530 q_p6 q_i2 q_c531 hvX6_numeral ⟨(Nat.le_of_ble_eq_true rfl), (Nat.le_of_ble_eq_true rfl)⟩ ⟨(Nat.le_of_ble_eq_true rfl), (Nat.le_of_ble_eq_true rfl)⟩ hK hH (fun q h => Or.inr h) Bl0 (fun _ _ _ => trivial) 6 1 rfl (cwc1 C A u18) rfl hl.1 rfl (Nat.le_of_ble_eq_true rfl) dX6_readTown_51 (fun r22 u21 H locs p23 hH => ?_)
  obtain ⟨hI, hUu21, p23⟩ := p23
  refine r_put (j := 19) (ci := 7) (C := RX7) (T := TX7) (N := 16) hx hb hts (fun w h => uc_in w (inX7 w h)) tyX7 tyX7_ok nmX7 hown hK hH 3 (cwc3 C A u21) rfl 3 (by decide) (hts _ (uc_in _ q_f79)) (fun _ h9 => h9) rfl (by decide +kernel) (Nat.le_of_ble_eq_true rfl) (cws19 C A u21 _) dX6_readTown_54 (fun u24 eu24 H locs hH => ?_)
  have hI := hI.pi0 eu24 rfl (by decide) (by decide)
  exact hret _ _ _ _ _ dX6_readTown_57 ⟨hI, (Un.si (Un.tr (Un.tr (Un.si (Un.tr (Un.tr (Un.si (Un.tr (Un.tr (Un.tr Un.rf hUu1 rfl rfl rfl) hUu4 rfl rfl rfl) hUu7 rfl rfl rfl) rfl eu10) hUu11 rfl rfl rfl) hUu14 rfl rfl rfl) rfl eu17) hUu18 rfl rfl rfl) hUu21 rfl rfl rfl) rfl eu24), trivial⟩ hH
set_option maxHeartbeats 4000000 in
set_option maxRecDepth 100000 in
theorem kX6_readLine_0 (l : Launch) (D : va_G) (C : Nat → ClassId) (A : Nat → Nat) (u : St) (hI : IC u) (adK adV : Nat → Nat) (sz : Nat) : MetV l yX6_readLine cX6_readLine 2 8 [.ref (A 1), .ref (A 3)] D (tyl C) (cw C A) (XS adK adV) u sz (fun u' => IC u' ∧ Un [(2, 2), (3, 3), (4, 4), (5, 5), (6, 6), (7, 7), (16, 16), (17, 17), (18, 18), (19, 19), (20, 20), (21, 21), (22, 22)] [(57, 57), (58, 58), (59, 59), (60, 60), (61, 61)] [] u u' ∧ True) := by
  refine mV (by decide) (Nat.le_of_ble_eq_true rfl) ?_
  intro p e s m below meth c ls ar Q hx hb hml hown hts hK hH hX hl hret
  have hown : s.vm.findClass RX6 = some m.cls := hown
  have hl : lv_has ls 2 [(0, .ref (A 1)), (1, .ref (A 3))] := hl
  refine lv_aload_n hx hb dX6_readLine_0 rfl (lv_at hl 1 rfl) ?_
  refine va_get (ci := 7) (v := .int (gi u 16)) (C := RX7) (T := TX7) (N := 16) hx hb hts (fun w h => uc_in w (inX7 w h)) hown hK hH.1 3 (cwc3 C A u) rfl 0 (by decide) (hts _ (uc_in _ q_f69)) (fun _ h9 => h9) rfl dX6_readLine_1 ?_
  have j54_34 : ∀ (ls : Array Slot) (u34 : St) (H : Heap) (locs : List Loc), Un [(2, 2), (3, 3), (4, 4), (5, 5), (6, 6), (7, 7), (17, 17), (18, 18), (19, 19), (20, 20), (21, 21), (22, 22)] [(57, 57), (58, 58), (59, 59), (60, 60), (61, 61)] [] u u34 → IC u34 → Hd D (cw C A) (va_A (cw C A u) s.heap.size) s.heap u34 H locs → lv_has ls 2 [(0, .ref (A 1)), (1, .ref (A 3))] → W p l e (rmL 8 0 0) s m ar below meth c H locs 0 0 Q (F0 m 54 ls []) := by
    intro ls u34 H locs hUu34 hI hH hl
    refine lv_aload_n hx hb dX6_readLine_54 rfl (lv_at hl 0 rfl) ?_
    refine va_get (ci := 6) (v := .int (gi u34 6)) (C := RX6) (T := TX6) (N := 8) hx hb hts (fun w h => uc_in w (inX6 w h)) hown hK hH.1 1 (cwc1 C A u34) rfl 6 (by decide) (hts _ (uc_in _ q_f42)) (fun _ h9 => h9) rfl dX6_readLine_55 ?_
    refine lv_iconst (v := 1) hx hb dX6_readLine_58 (by decide) ?_
    have j67_47 : ∀ (ls : Array Slot) (u47 : St) (H : Heap) (locs : List Loc), Un [(2, 2), (3, 3)] [] [] u34 u47 → IC u47 → Hd D (cw C A) (va_A (cw C A u) s.heap.size) s.heap u47 H locs → lv_has ls 2 [(0, .ref (A 1)), (1, .ref (A 3))] → W p l e (rmL 8 0 0) s m ar below meth c H locs 0 0 Q (F0 m 67 ls []) := by
      intro ls u47 H locs hUu47 hI hH hl
      refine lv_aload_n hx hb dX6_readLine_67 rfl (lv_at hl 0 rfl) ?_
      refine cvU (n := 0) (As := []) (rest := []) ⟨hx, hb, hml, hown, hts⟩ uc_in (kX6_step_0 l D C A u47 hI  _) q_m444 q_n446 q_p0 q_i2 q_c447 hvX6_step ⟨(Nat.le_of_ble_eq_true rfl), (Nat.le_of_ble_eq_true rfl)⟩ ⟨(Nat.le_of_ble_eq_true rfl), (Nat.le_of_ble_eq_true rfl)⟩ hK hH (fun q h => Or.inr h) Bl0 (fun _ _ _ => trivial) 6 1 rfl (cwc1 C A u47) rfl hl.1 rfl (Nat.le_of_ble_eq_true rfl) dX6_readLine_68 (fun u49 H locs p51 hH => ?_)
      obtain ⟨hI, hUu49, p51⟩ := p51
      refine lv_aload_n hx hb dX6_readLine_71 rfl (lv_at hl 1 rfl) ?_
      refine lv_dup hx hb dX6_readLine_72 rfl ?_
      refine va_get (ci := 7) (v := .int (gi u49 16)) (C := RX7) (T := TX7) (N := 16) hx hb hts (fun w h => uc_in w (inX7 w h)) hown hK hH.1 3 (cwc3 C A u49) rfl 0 (by decide) (hts _ (uc_in _ q_f69)) (fun _ h9 => h9) rfl dX6_readLine_73 ?_
      refine pv_i (v := (gi u 16)) ((hUu49.1 16 rfl).trans ((hUu47.1 16 rfl).trans ((hUu34.1 16 rfl).trans rfl))) ?_
      refine lv_iconst (v := 1) hx hb dX6_readLine_76 (by decide) ?_
      refine lv_iadd hx hb dX6_readLine_77 ?_
      refine p_any (fun z52 => ?_)
      refine r_put (j := 16) (ci := 7) (C := RX7) (T := TX7) (N := 16) hx hb hts (fun w h => uc_in w (inX7 w h)) tyX7 tyX7_ok nmX7 hown hK hH 3 (cwc3 C A u49) rfl 0 (by decide) (hts _ (uc_in _ q_f69)) (fun _ h9 => h9) rfl (by decide +kernel) (Nat.le_of_ble_eq_true rfl) (cws16 C A u49 _) dX6_readLine_78 (fun u53 eu53 H locs hH => ?_)
      have hI := hI.pi0 eu53 rfl (by decide) (by decide)
      exact hret _ _ _ _ _ dX6_readLine_81 ⟨hI, (Un.si (Un.tr (Un.tr (Un.tr Un.rf hUu34 rfl rfl rfl) hUu47 rfl rfl rfl) hUu49 rfl rfl rfl) rfl eu53), trivial⟩ hH
    refine lv_icmp_eq (tgt := 67) hx hb dX6_readLine_59 (by decide) (fun c36 => ?_) (fun c36 => ?_)
    · have c36 := cEQ (x := (gi u34 6)) (y := 1) (X := ((gi u34 6)).toInt) (Y := 1) rfl (by decide) c36
      exact j67_47 ls u34 _ _ Un.rf hI hH hl
    · refine lv_aload_n hx hb dX6_readLine_62 rfl (lv_at hl 0 rfl) ?_
      refine lv_iconst (v := 1) hx hb dX6_readLine_63 (by decide) ?_
      refine cvU (n := 1) (As := [.int 1]) (rest := []) ⟨hx, hb, hml, hown, hts⟩ uc_in (kX6_blame_0 l D C A u34 hI  _) q_m523 q_n525 q_p5 q_i2 q_c526 hvX6_blame ⟨(Nat.le_of_ble_eq_true rfl), (Nat.le_of_ble_eq_true rfl)⟩ ⟨(Nat.le_of_ble_eq_true rfl), (Nat.le_of_ble_eq_true rfl)⟩ hK hH (fun q h => Or.inr h) Bl0 (fun _ _ _ => trivial) 6 1 rfl (cwc1 C A u34) rfl hl.1 rfl (Nat.le_of_ble_eq_true rfl) dX6_readLine_64 (fun u54 H locs p56 hH => ?_)
      obtain ⟨hI, hUu54, p56⟩ := p56
      exact j67_47 ls u54 _ _ (Un.tr Un.rf hUu54 rfl rfl rfl) hI hH hl
  refine lv_if_ne (tgt := 15) hx hb dX6_readLine_4 (by decide) (fun c1 => ?_) (fun c1 => ?_)
  · refine lv_aload_n hx hb dX6_readLine_15 rfl (lv_at hl 0 rfl) ?_
    refine va_ldcS hx hb hown (show vk_R RX6 49 "clock" (adK 4) s from hX.2.1 4 (by decide)) dX6_readLine_16 ?_
    refine cvI (n := 1) (As := [.ref (adK 4)]) (rest := []) ⟨hx, hb, hml, hown, hts⟩ uc_in (kX6_isWord_0 l D C A u hI  adK adV _) q_m471 q_n473 q_p4 q_i2 q_c474 hvX6_isWord ⟨(Nat.le_of_ble_eq_true rfl), (Nat.le_of_ble_eq_true rfl)⟩ ⟨(Nat.le_of_ble_eq_true rfl), (Nat.le_of_ble_eq_true rfl)⟩ hK hH (fun q h => Or.inr h) BlS (fun U hU hW => hX.at hH hW hU) 6 1 rfl (cwc1 C A u) rfl hl.1 rfl (Nat.le_of_ble_eq_true rfl) dX6_readLine_18 (fun r58 u57 H locs p59 hH => ?_)
    obtain ⟨hI, hUu57, p59⟩ := p59
    have p59 : 0 ≤ r58.toInt ∧ r58.toInt ≤ 1 := p59
    refine lv_if_eq (tgt := 32) hx hb dX6_readLine_21 (by decide) (fun c60 => ?_) (fun c60 => ?_)
    · have c60 := cEQ (x := r58) (y := 0) (X := r58.toInt) (Y := 0) rfl (by decide) c60
      refine lv_aload_n hx hb dX6_readLine_32 rfl (lv_at hl 0 rfl) ?_
      refine va_ldcS hx hb hown (show vk_R RX6 58 "trade" (adK 12) s from hX.2.1 12 (by decide)) dX6_readLine_33 ?_
      refine cvI (n := 1) (As := [.ref (adK 12)]) (rest := []) ⟨hx, hb, hml, hown, hts⟩ uc_in (kX6_isWord_1 l D C A u57 hI  adK adV _) q_m471 q_n473 q_p4 q_i2 q_c474 hvX6_isWord ⟨(Nat.le_of_ble_eq_true rfl), (Nat.le_of_ble_eq_true rfl)⟩ ⟨(Nat.le_of_ble_eq_true rfl), (Nat.le_of_ble_eq_true rfl)⟩ hK hH (fun q h => Or.inr h) BlS (fun U hU hW => hX.at hH hW hU) 6 1 rfl (cwc1 C A u57) rfl hl.1 rfl (Nat.le_of_ble_eq_true rfl) dX6_readLine_35 (fun r62 u61 H locs p63 hH => ?_)
      obtain ⟨hI, hUu61, p63⟩ := p63
      have p63 : 0 ≤ r62.toInt ∧ r62.toInt ≤ 1 := p63
      refine lv_if_eq (tgt := 49) hx hb dX6_readLine_38 (by decide) (fun c64 => ?_) (fun c64 => ?_)
      · have c64 := cEQ (x := r62) (y := 0) (X := r62.toInt) (Y := 0) rfl (by decide) c64
        refine lv_aload_n hx hb dX6_readLine_49 rfl (lv_at hl 0 rfl) ?_
        refine lv_iconst (v := 1) hx hb dX6_readLine_50 (by decide) ?_
        refine cvU (n := 1) (As := [.int 1]) (rest := []) ⟨hx, hb, hml, hown, hts⟩ uc_in (kX6_blame_0 l D C A u61 hI  _) q_m523 q_n525 q_p5 q_i2 q_c526 hvX6_blame ⟨(Nat.le_of_ble_eq_true rfl), (Nat.le_of_ble_eq_true rfl)⟩ ⟨(Nat.le_of_ble_eq_true rfl), (Nat.le_of_ble_eq_true rfl)⟩ hK hH (fun q h => Or.inr h) Bl0 (fun _ _ _ => trivial) 6 1 rfl (cwc1 C A u61) rfl hl.1 rfl (Nat.le_of_ble_eq_true rfl) dX6_readLine_51 (fun u65 H locs p67 hH => ?_)
        obtain ⟨hI, hUu65, p67⟩ := p67
        exact j54_34 ls u65 _ _ (Un.tr (Un.tr (Un.tr Un.rf hUu57 rfl rfl rfl) hUu61 rfl rfl rfl) hUu65 rfl rfl rfl) hI hH hl
      · have c64 := cNE (x := r62) (y := 0) (X := r62.toInt) (Y := 0) rfl (by decide) c64
        refine lv_aload_n hx hb dX6_readLine_41 rfl (lv_at hl 0 rfl) ?_
        refine lv_aload_n hx hb dX6_readLine_42 rfl (lv_at hl 1 rfl) ?_
        refine cvU (n := 1) (As := [.ref (A 3)]) (rest := []) ⟨hx, hb, hml, hown, hts⟩ uc_in (kX6_readTrade_0 l D C A u61 hI  adK adV _) q_m551 q_n553 q_p9 q_i2 q_c554 hvX6_readTrade ⟨(Nat.le_of_ble_eq_true rfl), (Nat.le_of_ble_eq_true rfl)⟩ ⟨(Nat.le_of_ble_eq_true rfl), (Nat.le_of_ble_eq_true rfl)⟩ hK hH (fun q h => Or.inr h) BlS (fun U hU hW => hX.at hH hW hU) 6 1 rfl (cwc1 C A u61) rfl hl.1 rfl (Nat.le_of_ble_eq_true rfl) dX6_readLine_43 (fun u68 H locs p70 hH => ?_)
        obtain ⟨hI, hUu68, p70⟩ := p70
        refine lv_goto (tgt := 54) hx hb dX6_readLine_46 (by decide) ?_
        exact j54_34 ls u68 _ _ (Un.tr (Un.tr (Un.tr Un.rf hUu57 rfl rfl rfl) hUu61 rfl rfl rfl) hUu68 rfl rfl rfl) hI hH hl
    · have c60 := cNE (x := r58) (y := 0) (X := r58.toInt) (Y := 0) rfl (by decide) c60
      refine lv_aload_n hx hb dX6_readLine_24 rfl (lv_at hl 0 rfl) ?_
      refine lv_aload_n hx hb dX6_readLine_25 rfl (lv_at hl 1 rfl) ?_
      refine cvU (n := 1) (As := [.ref (A 3)]) (rest := []) ⟨hx, hb, hml, hown, hts⟩ uc_in (kX6_readClock_0 l D C A u57 hI  adK adV _) q_m535 q_n537 q_p7 q_i2 q_c538 hvX6_readClock ⟨(Nat.le_of_ble_eq_true rfl), (Nat.le_of_ble_eq_true rfl)⟩ ⟨(Nat.le_of_ble_eq_true rfl), (Nat.le_of_ble_eq_true rfl)⟩ hK hH (fun q h => Or.inr h) BlS (fun U hU hW => hX.at hH hW hU) 6 1 rfl (cwc1 C A u57) rfl hl.1 rfl (Nat.le_of_ble_eq_true rfl) dX6_readLine_26 (fun u71 H locs p73 hH => ?_)
      obtain ⟨hI, hUu71, p73⟩ := p73
      refine lv_goto (tgt := 54) hx hb dX6_readLine_29 (by decide) ?_
      exact j54_34 ls u71 _ _ (Un.tr (Un.tr Un.rf hUu57 rfl rfl rfl) hUu71 rfl rfl rfl) hI hH hl
  · have c1 := cEQ (x := (gi u 16)) (y := 0) (X := ((gi u 16)).toInt) (Y := 0) rfl (by decide) c1
    refine lv_aload_n hx hb dX6_readLine_7 rfl (lv_at hl 0 rfl) ?_
    refine lv_aload_n hx hb dX6_readLine_8 rfl (lv_at hl 1 rfl) ?_
    refine cvU (n := 1) (As := [.ref (A 3)]) (rest := []) ⟨hx, hb, hml, hown, hts⟩ uc_in (kX6_readTown_0 l D C A u hI  adK adV _) q_m462 q_n464 q_p2 q_i2 q_c465 hvX6_readTown ⟨(Nat.le_of_ble_eq_true rfl), (Nat.le_of_ble_eq_true rfl)⟩ ⟨(Nat.le_of_ble_eq_true rfl), (Nat.le_of_ble_eq_true rfl)⟩ hK hH (fun q h => Or.inr h) BlS (fun U hU hW => hX.at hH hW hU) 6 1 rfl (cwc1 C A u) rfl hl.1 rfl (Nat.le_of_ble_eq_true rfl) dX6_readLine_9 (fun u74 H locs p76 hH => ?_)
    obtain ⟨hI, hUu74, p76⟩ := p76
    refine lv_goto (tgt := 54) hx hb dX6_readLine_12 (by decide) ?_
    exact j54_34 ls u74 _ _ (Un.tr Un.rf hUu74 rfl rfl rfl) hI hH hl
set_option maxHeartbeats 4000000 in
set_option maxRecDepth 100000 in
theorem kX6_tell_0 (l : Launch) (D : va_G) (C : Nat → ClassId) (A : Nat → Nat) (u : St) (hI : IC u) (adK adV : Nat → Nat) (sz : Nat) : MetI l yX6_tell cX6_tell 3 (some .boolean) 9 [.ref (A 1), .ref (A 3)] D (tyl C) (cw C A) (XS adK adV) u sz (fun r u' => IC u' ∧ Un [(2, 2), (3, 3), (4, 4), (5, 5), (6, 6), (7, 7), (16, 16), (17, 17), (18, 18), (19, 19), (20, 20), (21, 21), (22, 22), (23, 23)] [(57, 57), (58, 58), (59, 59), (60, 60), (61, 61)] [] u u' ∧ ((r = 1 ∧ (gi u' 2).toInt = 0) ∨ r = 0)) := by
  refine mI (by decide) (Nat.le_of_ble_eq_true rfl) ?_
  intro p e s m below meth c ls ar Q hx hb hml hown hts hK hH hX hl hret
  have hown : s.vm.findClass RX6 = some m.cls := hown
  have hl : lv_has ls 3 [(0, .ref (A 1)), (1, .ref (A 3))] := hl
  refine lv_aload_n hx hb dX6_tell_0 rfl (lv_at hl 1 rfl) ?_
  refine cvU (n := 0) (As := []) (rest := []) ⟨hx, hb, hml, hown, hts⟩ uc_in (kX7_clear_0 l D C A u hI  _) q_m440 q_n441 q_e442 q_i3 q_c443 hvX7_clear ⟨(Nat.le_of_ble_eq_true rfl), (Nat.le_of_ble_eq_true rfl)⟩ ⟨(Nat.le_of_ble_eq_true rfl), (Nat.le_of_ble_eq_true rfl)⟩ hK hH (fun q h => Or.inr h) Bl0 (fun _ _ _ => trivial) 7 3 rfl (cwc3 C A u) rfl hl.1 rfl (Nat.le_of_ble_eq_true rfl) dX6_tell_1 (fun u1 H locs p3 hH => ?_)
  obtain ⟨hI, hUu1, p3⟩ := p3
  refine lv_aload_n hx hb dX6_tell_4 rfl (lv_at hl 0 rfl) ?_
  refine lv_iconst (v := 0) hx hb dX6_tell_5 (by decide) ?_
  refine r_put (j := 2) (ci := 6) (C := RX6) (T := TX6) (N := 8) hx hb hts (fun w h => uc_in w (inX6 w h)) tyX6 tyX6_ok nmX6 hown hK hH 1 (cwc1 C A u1) rfl 2 (by decide) (hts _ (uc_in _ q_f36)) (fun _ h9 => h9) rfl (by decide +kernel) (Nat.le_of_ble_eq_true rfl) (cws2 C A u1 _) dX6_tell_6 (fun u4 eu4 H locs hH => ?_)
  have hI := hI.fault eu4 (fun _ => by rw [p3]; decide)
  refine lv_aload_n hx hb dX6_tell_9 rfl (lv_at hl 0 rfl) ?_
  refine lv_iconst (v := (-1)) hx hb dX6_tell_10 (by decide) ?_
  refine r_put (j := 3) (ci := 6) (C := RX6) (T := TX6) (N := 8) hx hb hts (fun w h => uc_in w (inX6 w h)) tyX6 tyX6_ok nmX6 hown hK hH 1 (cwc1 C A u4) rfl 3 (by decide) (hts _ (uc_in _ q_f38)) (fun _ h9 => h9) rfl (by decide +kernel) (Nat.le_of_ble_eq_true rfl) (cws3 C A u4 _) dX6_tell_11 (fun u5 eu5 H locs hH => ?_)
  have hI := hI.pi0 eu5 rfl (by decide) (by decide)
  refine lv_aload_n hx hb dX6_tell_14 rfl (lv_at hl 0 rfl) ?_
  refine lv_iconst (v := 0) hx hb dX6_tell_15 (by decide) ?_
  refine r_put (j := 5) (ci := 6) (C := RX6) (T := TX6) (N := 8) hx hb hts (fun w h => uc_in w (inX6 w h)) tyX6 tyX6_ok nmX6 hown hK hH 1 (cwc1 C A u5) rfl 5 (by decide) (hts _ (uc_in _ q_f41)) (fun _ h9 => h9) rfl (by decide +kernel) (Nat.le_of_ble_eq_true rfl) (cws5 C A u5 _) dX6_tell_16 (fun u6 eu6 H locs hH => ?_)
  have hI := hI.s5 eu6 (X := 0) (by decide) (by decide) (by decide)
  refine lv_aload_n hx hb dX6_tell_19 rfl (lv_at hl 0 rfl) ?_
  refine cvU (n := 0) (As := []) (rest := []) ⟨hx, hb, hml, hown, hts⟩ uc_in (kX6_step_0 l D C A u6 hI  _) q_m444 q_n446 q_p0 q_i2 q_c447 hvX6_step ⟨(Nat.le_of_ble_eq_true rfl), (Nat.le_of_ble_eq_true rfl)⟩ ⟨(Nat.le_of_ble_eq_true rfl), (Nat.le_of_ble_eq_true rfl)⟩ hK hH (fun q h => Or.inr h) Bl0 (fun _ _ _ => trivial) 6 1 rfl (cwc1 C A u6) rfl hl.1 rfl (Nat.le_of_ble_eq_true rfl) dX6_tell_20 (fun u7 H locs p9 hH => ?_)
  obtain ⟨hI, hUu7, p9⟩ := p9
  refine lv_iconst (v := 0) hx hb dX6_tell_23 (by decide) ?_
  refine lv_istore_n (lv' := [(2, .int 0), (0, .ref (A 1)), (1, .ref (A 3))]) hx hb dX6_tell_24 rfl hl (by decide) rfl (fun ls hl => ?_)
  have lp25_286 : ∀ (n25 : Nat) (ls : Array Slot) (y285d : Int32) (u286 : St) (H : Heap) (locs : List Loc), 0 ≤ y285d.toInt → y285d.toInt ≤ 801 → 801 - y285d.toInt < (n25 : Int) → Un [(2, 2), (3, 3), (4, 4), (5, 5), (6, 6), (7, 7), (16, 16), (17, 17), (18, 18), (19, 19), (20, 20), (21, 21), (22, 22)] [(57, 57), (58, 58), (59, 59), (60, 60), (61, 61)] [] u7 u286 → IC u286 → Hd D (cw C A) (va_A (cw C A u) s.heap.size) s.heap u286 H locs → lv_has ls 3 [(2, .int y285d), (0, .ref (A 1)), (1, .ref (A 3))] → W p l e (rmL 9 0 0) s m ar below meth c H locs 0 0 Q (F0 m 25 ls []) := by
    intro n25
    induction n25 with
    | zero => intro ls y285d u286 H locs ly285d my285d hmun25 hUu286 hI hH hl; exfalso; omega
    | succ n25 ih25_286 =>
      intro ls y285d u286 H locs ly285d my285d hmun25 hUu286 hI hH hl
      refine lv_iload_n hx hb dX6_tell_25 rfl (lv_at hl 0 rfl) ?_
      refine lv_sipush (v := 800) hx hb dX6_tell_26 (by decide) ?_
      have j57_296 : ∀ (ls : Array Slot), lv_has ls 3 [(0, .ref (A 1))] → W p l e (rmL 9 0 0) s m ar below meth c H locs 0 0 Q (F0 m 57 ls []) := by
        intro ls hl
        refine lv_aload_n hx hb dX6_tell_57 rfl (lv_at hl 0 rfl) ?_
        refine va_get (ci := 6) (v := .int (gi u286 2)) (C := RX6) (T := TX6) (N := 8) hx hb hts (fun w h => uc_in w (inX6 w h)) hown hK hH.1 1 (cwc1 C A u286) rfl 2 (by decide) (hts _ (uc_in _ q_f36)) (fun _ h9 => h9) rfl dX6_tell_58 ?_
        refine lv_if_ne (tgt := 68) hx hb dX6_tell_61 (by decide) (fun c298 => ?_) (fun c298 => ?_)
        · refine lv_iconst (v := 0) hx hb dX6_tell_68 (by decide) ?_
          exact hret _ _ _ _ (0 : Int32) _ dX6_tell_69 rfl ⟨hI, (Un.tr (Un.tr (Un.si (Un.si (Un.si (Un.tr Un.rf hUu1 rfl rfl rfl) rfl eu4) rfl eu5) rfl eu6) hUu7 rfl rfl rfl) hUu286 rfl rfl rfl), (Or.inr rfl)⟩ hH
        · have c298 := cEQ (x := (gi u286 2)) (y := 0) (X := ((gi u286 2)).toInt) (Y := 0) rfl (by decide) c298
          refine lv_iconst (v := 1) hx hb dX6_tell_64 (by decide) ?_
          refine lv_goto (tgt := 69) hx hb dX6_tell_65 (by decide) ?_
          exact hret _ _ _ _ (1 : Int32) _ dX6_tell_69 rfl ⟨hI, (Un.tr (Un.tr (Un.si (Un.si (Un.si (Un.tr Un.rf hUu1 rfl rfl rfl) rfl eu4) rfl eu5) rfl eu6) hUu7 rfl rfl rfl) hUu286 rfl rfl rfl), (Or.inl ⟨rfl, by have q2 := (show (gi u286 2).toInt = ((gi u286 2)).toInt from (congrArg Int32.toInt (show gi u286 2 = (gi u286 2) from rfl)).trans rfl); omega⟩)⟩ hH
      refine lv_icmp_gt (tgt := 57) hx hb dX6_tell_29 (by decide) (fun c288 => ?_) (fun c288 => ?_)
      · have c288 := cLT (x := 800) (y := y285d) (X := 800) (Y := y285d.toInt) (by decide) rfl c288
        exact j57_296 ls (lv_sub hl [1] rfl)
      · have c288 := cNLT (x := 800) (y := y285d) (X := 800) (Y := y285d.toInt) (by decide) rfl c288
        refine lv_aload_n hx hb dX6_tell_32 rfl (lv_at hl 1 rfl) ?_
        refine va_get (ci := 6) (v := .int (gi u286 6)) (C := RX6) (T := TX6) (N := 8) hx hb hts (fun w h => uc_in w (inX6 w h)) hown hK hH.1 1 (cwc1 C A u286) rfl 6 (by decide) (hts _ (uc_in _ q_f42)) (fun _ h9 => h9) rfl dX6_tell_33 ?_
        refine lv_if_eq (tgt := 57) hx hb dX6_tell_36 (by decide) (fun c299 => ?_) (fun c299 => ?_)
        · have c299 := cEQ (x := (gi u286 6)) (y := 0) (X := ((gi u286 6)).toInt) (Y := 0) rfl (by decide) c299
          exact j57_296 ls (lv_sub hl [1] rfl)
        · refine lv_aload_n hx hb dX6_tell_39 rfl (lv_at hl 1 rfl) ?_
          refine va_get (ci := 6) (v := .int (gi u286 2)) (C := RX6) (T := TX6) (N := 8) hx hb hts (fun w h => uc_in w (inX6 w h)) hown hK hH.1 1 (cwc1 C A u286) rfl 2 (by decide) (hts _ (uc_in _ q_f36)) (fun _ h9 => h9) rfl dX6_tell_40 ?_
          refine lv_if_ne (tgt := 57) hx hb dX6_tell_43 (by decide) (fun c300 => ?_) (fun c300 => ?_)
          · exact j57_296 ls (lv_sub hl [1] rfl)
          · have c300 := cEQ (x := (gi u286 2)) (y := 0) (X := ((gi u286 2)).toInt) (Y := 0) rfl (by decide) c300
            refine lv_aload_n hx hb dX6_tell_46 rfl (lv_at hl 1 rfl) ?_
            refine lv_aload_n hx hb dX6_tell_47 rfl (lv_at hl 2 rfl) ?_
            refine cvU (n := 1) (As := [.ref (A 3)]) (rest := []) ⟨hx, hb, hml, hown, hts⟩ uc_in (kX6_readLine_0 l D C A u286 hI  adK adV _) q_m458 q_n460 q_p1 q_i2 q_c461 hvX6_readLine ⟨(Nat.le_of_ble_eq_true rfl), (Nat.le_of_ble_eq_true rfl)⟩ ⟨(Nat.le_of_ble_eq_true rfl), (Nat.le_of_ble_eq_true rfl)⟩ hK hH (fun q h => Or.inr h) BlS (fun U hU hW => hX.at hH hW hU) 6 1 rfl (cwc1 C A u286) rfl hl.1 rfl (Nat.le_of_ble_eq_true rfl) dX6_tell_48 (fun u301 H locs p303 hH => ?_)
            obtain ⟨hI, hUu301, p303⟩ := p303
            obtain ⟨z304, ez304⟩ : ∃ z, z = y285d + Int32.ofInt 1 := ⟨_, rfl⟩
            have hz304 : z304.toInt = y285d.toInt + 1 := by rw [ez304]; exact tt_add rfl (by decide) (by omega) (by omega)
            refine lv_iinc (v := z304) (lv' := [(2, .int z304), (0, .ref (A 1)), (1, .ref (A 3))]) hx hb dX6_tell_51 hl (k := 0) rfl ez304.symm (by decide) rfl (fun ls hl => ?_)
            refine lv_goto (tgt := 25) hx hb dX6_tell_54 (by decide) ?_
            exact ih25_286 ls z304 u301 _ _ (by have q9 := (show z304.toInt = (y285d.toInt + 1) from hz304); omega) (by have q9 := (show z304.toInt = (y285d.toInt + 1) from hz304); omega) (by have q9 := (show z304.toInt = (y285d.toInt + 1) from hz304); omega) (Un.tr hUu286 hUu301 rfl rfl rfl) hI hH hl
  exact lp25_286 802 ls 0 u7 _ _ (by decide) (by decide) (by have q9 : (0 : Int32).toInt = 0 := (by decide); omega) Un.rf hI hH hl
set_option maxHeartbeats 4000000 in
set_option maxRecDepth 100000 in
theorem kX7_copyFrom_6 (l : Launch) (D : va_G) (C : Nat → ClassId) (A : Nat → Nat) (u : St) (hI : IC u) (hdd : 0 ≤ (gi u 17).toInt ∧ (gi u 17).toInt ≤ 7) (sz : Nat) : MetV l yX7_copyFrom cX7_copyFrom 2 2 [.ref (A 2), .ref (A 3)] D (tyl C) (cw C A) X0 u sz (fun u' => IC u' ∧ Un [(8, 8), (9, 9), (10, 10), (11, 11), (12, 12), (13, 13), (14, 14), (15, 15)] [(23, 23), (24, 24), (25, 25), (52, 52), (53, 53), (54, 54), (55, 55), (56, 56)] [] u u' ∧ True) := by
  refine mV (by decide) (Nat.le_of_ble_eq_true rfl) ?_
  intro p e s m below meth c ls ar Q hx hb hml hown hts hK hH hX hl hret
  have hown : s.vm.findClass RX7 = some m.cls := hown
  have hl : lv_has ls 2 [(0, .ref (A 2)), (1, .ref (A 3))] := hl
  refine lv_aload_n hx hb dX7_copyFrom_0 rfl (lv_at hl 0 rfl) ?_
  refine lv_aload_n hx hb dX7_copyFrom_1 rfl (lv_at hl 1 rfl) ?_
  refine va_get (ci := 7) (v := .int (gi u 16)) (C := RX7) (T := TX7) (N := 16) hx hb hts (fun w h => uc_in w (inX7 w h)) hown hK hH.1 3 (cwc3 C A u) rfl 0 (by decide) (hts _ (uc_in _ q_f68)) (fun _ h9 => h9) rfl dX7_copyFrom_2 ?_
  refine r_put (j := 8) (ci := 7) (C := RX7) (T := TX7) (N := 16) hx hb hts (fun w h => uc_in w (inX7 w h)) tyX7 tyX7_ok nmX7 hown hK hH 2 (cwc2 C A u) rfl 0 (by decide) (hts _ (uc_in _ q_f68)) (fun _ h9 => h9) rfl (by decide +kernel) (Nat.le_of_ble_eq_true rfl) (cws8 C A u _) dX7_copyFrom_5 (fun u1 eu1 H locs hH => ?_)
  have hI := hI.pi0 eu1 rfl (by decide) (by decide)
  refine lv_aload_n hx hb dX7_copyFrom_8 rfl (lv_at hl 0 rfl) ?_
  refine lv_aload_n hx hb dX7_copyFrom_9 rfl (lv_at hl 1 rfl) ?_
  refine va_get (ci := 7) (v := .int (gi u1 17)) (C := RX7) (T := TX7) (N := 16) hx hb hts (fun w h => uc_in w (inX7 w h)) hown hK hH.1 3 (cwc3 C A u1) rfl 1 (by decide) (hts _ (uc_in _ q_f72)) (fun _ h9 => h9) rfl dX7_copyFrom_10 ?_
  refine pv_i (v := (gi u 17)) ((gi_ne eu1 (by decide)).trans rfl) ?_
  refine r_put (j := 9) (ci := 7) (C := RX7) (T := TX7) (N := 16) hx hb hts (fun w h => uc_in w (inX7 w h)) tyX7 tyX7_ok nmX7 hown hK hH 2 (cwc2 C A u1) rfl 1 (by decide) (hts _ (uc_in _ q_f72)) (fun _ h9 => h9) rfl (by decide +kernel) (Nat.le_of_ble_eq_true rfl) (cws9 C A u1 _) dX7_copyFrom_13 (fun u2 eu2 H locs hH => ?_)
  have hI := hI.s9 eu2 rfl (by omega) (by omega)
  refine lv_aload_n hx hb dX7_copyFrom_16 rfl (lv_at hl 0 rfl) ?_
  refine lv_aload_n hx hb dX7_copyFrom_17 rfl (lv_at hl 1 rfl) ?_
  refine va_get (ci := 7) (v := .int (gi u2 18)) (C := RX7) (T := TX7) (N := 16) hx hb hts (fun w h => uc_in w (inX7 w h)) hown hK hH.1 3 (cwc3 C A u2) rfl 2 (by decide) (hts _ (uc_in _ q_f75)) (fun _ h9 => h9) rfl dX7_copyFrom_18 ?_
  refine r_put (j := 10) (ci := 7) (C := RX7) (T := TX7) (N := 16) hx hb hts (fun w h => uc_in w (inX7 w h)) tyX7 tyX7_ok nmX7 hown hK hH 2 (cwc2 C A u2) rfl 2 (by decide) (hts _ (uc_in _ q_f75)) (fun _ h9 => h9) rfl (by decide +kernel) (Nat.le_of_ble_eq_true rfl) (cws10 C A u2 _) dX7_copyFrom_21 (fun u3 eu3 H locs hH => ?_)
  have hI := hI.pi0 eu3 rfl (by decide) (by decide)
  refine lv_aload_n hx hb dX7_copyFrom_24 rfl (lv_at hl 0 rfl) ?_
  refine lv_aload_n hx hb dX7_copyFrom_25 rfl (lv_at hl 1 rfl) ?_
  refine va_get (ci := 7) (v := .int (gi u3 19)) (C := RX7) (T := TX7) (N := 16) hx hb hts (fun w h => uc_in w (inX7 w h)) hown hK hH.1 3 (cwc3 C A u3) rfl 3 (by decide) (hts _ (uc_in _ q_f78)) (fun _ h9 => h9) rfl dX7_copyFrom_26 ?_
  refine r_put (j := 11) (ci := 7) (C := RX7) (T := TX7) (N := 16) hx hb hts (fun w h => uc_in w (inX7 w h)) tyX7 tyX7_ok nmX7 hown hK hH 2 (cwc2 C A u3) rfl 3 (by decide) (hts _ (uc_in _ q_f78)) (fun _ h9 => h9) rfl (by decide +kernel) (Nat.le_of_ble_eq_true rfl) (cws11 C A u3 _) dX7_copyFrom_29 (fun u4 eu4 H locs hH => ?_)
  have hI := hI.pi0 eu4 rfl (by decide) (by decide)
  refine lv_aload_n hx hb dX7_copyFrom_32 rfl (lv_at hl 0 rfl) ?_
  refine lv_aload_n hx hb dX7_copyFrom_33 rfl (lv_at hl 1 rfl) ?_
  refine va_get (ci := 7) (v := .int (gi u4 20)) (C := RX7) (T := TX7) (N := 16) hx hb hts (fun w h => uc_in w (inX7 w h)) hown hK hH.1 3 (cwc3 C A u4) rfl 4 (by decide) (hts _ (uc_in _ q_f82)) (fun _ h9 => h9) rfl dX7_copyFrom_34 ?_
  have b5 := hI.b20
  refine r_put (j := 12) (ci := 7) (C := RX7) (T := TX7) (N := 16) hx hb hts (fun w h => uc_in w (inX7 w h)) tyX7 tyX7_ok nmX7 hown hK hH 2 (cwc2 C A u4) rfl 4 (by decide) (hts _ (uc_in _ q_f82)) (fun _ h9 => h9) rfl (by decide +kernel) (Nat.le_of_ble_eq_true rfl) (cws12 C A u4 _) dX7_copyFrom_37 (fun u6 eu6 H locs hH => ?_)
  have hI := hI.s12 eu6 rfl (by omega) (by omega)
  refine lv_aload_n hx hb dX7_copyFrom_40 rfl (lv_at hl 0 rfl) ?_
  refine lv_aload_n hx hb dX7_copyFrom_41 rfl (lv_at hl 1 rfl) ?_
  refine va_get (ci := 7) (v := .int (gi u6 21)) (C := RX7) (T := TX7) (N := 16) hx hb hts (fun w h => uc_in w (inX7 w h)) hown hK hH.1 3 (cwc3 C A u6) rfl 5 (by decide) (hts _ (uc_in _ q_f85)) (fun _ h9 => h9) rfl dX7_copyFrom_42 ?_
  refine r_put (j := 13) (ci := 7) (C := RX7) (T := TX7) (N := 16) hx hb hts (fun w h => uc_in w (inX7 w h)) tyX7 tyX7_ok nmX7 hown hK hH 2 (cwc2 C A u6) rfl 5 (by decide) (hts _ (uc_in _ q_f85)) (fun _ h9 => h9) rfl (by decide +kernel) (Nat.le_of_ble_eq_true rfl) (cws13 C A u6 _) dX7_copyFrom_45 (fun u7 eu7 H locs hH => ?_)
  have hI := hI.pi0 eu7 rfl (by decide) (by decide)
  refine lv_aload_n hx hb dX7_copyFrom_48 rfl (lv_at hl 0 rfl) ?_
  refine lv_aload_n hx hb dX7_copyFrom_49 rfl (lv_at hl 1 rfl) ?_
  refine va_get (ci := 7) (v := .int (gi u7 22)) (C := RX7) (T := TX7) (N := 16) hx hb hts (fun w h => uc_in w (inX7 w h)) hown hK hH.1 3 (cwc3 C A u7) rfl 6 (by decide) (hts _ (uc_in _ q_f88)) (fun _ h9 => h9) rfl dX7_copyFrom_50 ?_
  refine r_put (j := 14) (ci := 7) (C := RX7) (T := TX7) (N := 16) hx hb hts (fun w h => uc_in w (inX7 w h)) tyX7 tyX7_ok nmX7 hown hK hH 2 (cwc2 C A u7) rfl 6 (by decide) (hts _ (uc_in _ q_f88)) (fun _ h9 => h9) rfl (by decide +kernel) (Nat.le_of_ble_eq_true rfl) (cws14 C A u7 _) dX7_copyFrom_53 (fun u8 eu8 H locs hH => ?_)
  have hI := hI.pi0 eu8 rfl (by decide) (by decide)
  refine lv_aload_n hx hb dX7_copyFrom_56 rfl (lv_at hl 0 rfl) ?_
  refine lv_aload_n hx hb dX7_copyFrom_57 rfl (lv_at hl 1 rfl) ?_
  refine va_get (ci := 7) (v := .int (gi u8 23)) (C := RX7) (T := TX7) (N := 16) hx hb hts (fun w h => uc_in w (inX7 w h)) hown hK hH.1 3 (cwc3 C A u8) rfl 7 (by decide) (hts _ (uc_in _ q_f92)) (fun _ h9 => h9) rfl dX7_copyFrom_58 ?_
  have b9 := hI.b23
  refine r_put (j := 15) (ci := 7) (C := RX7) (T := TX7) (N := 16) hx hb hts (fun w h => uc_in w (inX7 w h)) tyX7 tyX7_ok nmX7 hown hK hH 2 (cwc2 C A u8) rfl 7 (by decide) (hts _ (uc_in _ q_f92)) (fun _ h9 => h9) rfl (by decide +kernel) (Nat.le_of_ble_eq_true rfl) (cws15 C A u8 _) dX7_copyFrom_61 (fun u10 eu10 H locs hH => ?_)
  have hI := hI.s15 eu10 rfl (by omega) (by omega)
  refine lv_aload_n hx hb dX7_copyFrom_64 rfl (lv_at hl 1 rfl) ?_
  refine va_get (ci := 7) (v := .ref (A 57)) (C := RX7) (T := TX7) (N := 16) hx hb hts (fun w h => uc_in w (inX7 w h)) hown hK hH.1 3 (cwc3 C A u10) rfl 8 (by decide) (hts _ (uc_in _ q_f95)) (fun _ h9 => h9) rfl dX7_copyFrom_65 ?_
  refine lv_iconst (v := 0) hx hb dX7_copyFrom_68 (by decide) ?_
  refine lv_aload_n hx hb dX7_copyFrom_69 rfl (lv_at hl 0 rfl) ?_
  refine va_get (ci := 7) (v := .ref (A 52)) (C := RX7) (T := TX7) (N := 16) hx hb hts (fun w h => uc_in w (inX7 w h)) hown hK hH.1 2 (cwc2 C A u10) rfl 8 (by decide) (hts _ (uc_in _ q_f95)) (fun _ h9 => h9) rfl dX7_copyFrom_70 ?_
  refine lv_iconst (v := 0) hx hb dX7_copyFrom_73 (by decide) ?_
  refine lv_bipush (v := 6) hx hb dX7_copyFrom_74 (by decide) ?_
  refine r_copyi (j0 := 57) (j1 := 52) (S' := 0) (P' := 0) (N' := 6) hx hb (by rw [hml]; exact hl.1.symm) hown (hts _ (uc_in _ q_m560)) (hts _ (uc_in _ q_t562)) (hts _ (uc_in _ q_s561)) (hts _ (uc_in _ q_i17)) hK hH 57 52 1 (cwc57 C A u10) (cwc52 C A u10) rfl (by decide) (by decide) (by decide) (by decide) (by decide) (by decide) (by decide) (by decide) (cwa52 C A u10) (Nat.le_of_ble_eq_true rfl) (Nat.le_of_ble_eq_true rfl) dX7_copyFrom_76 (fun u11 eu11 H locs hH => ?_)
  have hI := hI.pa0 eu11 (by decide)
  refine lv_aload_n hx hb dX7_copyFrom_79 rfl (lv_at hl 1 rfl) ?_
  refine va_get (ci := 7) (v := .ref (A 58)) (C := RX7) (T := TX7) (N := 16) hx hb hts (fun w h => uc_in w (inX7 w h)) hown hK hH.1 3 (cwc3 C A u11) rfl 9 (by decide) (hts _ (uc_in _ q_f99)) (fun _ h9 => h9) rfl dX7_copyFrom_80 ?_
  refine lv_iconst (v := 0) hx hb dX7_copyFrom_83 (by decide) ?_
  refine lv_aload_n hx hb dX7_copyFrom_84 rfl (lv_at hl 0 rfl) ?_
  refine va_get (ci := 7) (v := .ref (A 53)) (C := RX7) (T := TX7) (N := 16) hx hb hts (fun w h => uc_in w (inX7 w h)) hown hK hH.1 2 (cwc2 C A u11) rfl 9 (by decide) (hts _ (uc_in _ q_f99)) (fun _ h9 => h9) rfl dX7_copyFrom_85 ?_
  refine lv_iconst (v := 0) hx hb dX7_copyFrom_88 (by decide) ?_
  refine lv_bipush (v := 6) hx hb dX7_copyFrom_89 (by decide) ?_
  refine r_copyi (j0 := 58) (j1 := 53) (S' := 0) (P' := 0) (N' := 6) hx hb (by rw [hml]; exact hl.1.symm) hown (hts _ (uc_in _ q_m560)) (hts _ (uc_in _ q_t562)) (hts _ (uc_in _ q_s561)) (hts _ (uc_in _ q_i17)) hK hH 58 53 1 (cwc58 C A u11) (cwc53 C A u11) rfl (by decide) (by decide) (by decide) (by decide) (by decide) (by decide) (by decide) (by decide) (cwa53 C A u11) (Nat.le_of_ble_eq_true rfl) (Nat.le_of_ble_eq_true rfl) dX7_copyFrom_91 (fun u12 eu12 H locs hH => ?_)
  have hI := hI.pa0 eu12 (by decide)
  refine lv_aload_n hx hb dX7_copyFrom_94 rfl (lv_at hl 1 rfl) ?_
  refine va_get (ci := 7) (v := .ref (A 59)) (C := RX7) (T := TX7) (N := 16) hx hb hts (fun w h => uc_in w (inX7 w h)) hown hK hH.1 3 (cwc3 C A u12) rfl 10 (by decide) (hts _ (uc_in _ q_f103)) (fun _ h9 => h9) rfl dX7_copyFrom_95 ?_
  refine lv_iconst (v := 0) hx hb dX7_copyFrom_98 (by decide) ?_
  refine lv_aload_n hx hb dX7_copyFrom_99 rfl (lv_at hl 0 rfl) ?_
  refine va_get (ci := 7) (v := .ref (A 54)) (C := RX7) (T := TX7) (N := 16) hx hb hts (fun w h => uc_in w (inX7 w h)) hown hK hH.1 2 (cwc2 C A u12) rfl 10 (by decide) (hts _ (uc_in _ q_f103)) (fun _ h9 => h9) rfl dX7_copyFrom_100 ?_
  refine lv_iconst (v := 0) hx hb dX7_copyFrom_103 (by decide) ?_
  refine lv_bipush (v := 6) hx hb dX7_copyFrom_104 (by decide) ?_
  refine r_copyi (j0 := 59) (j1 := 54) (S' := 0) (P' := 0) (N' := 6) hx hb (by rw [hml]; exact hl.1.symm) hown (hts _ (uc_in _ q_m560)) (hts _ (uc_in _ q_t562)) (hts _ (uc_in _ q_s561)) (hts _ (uc_in _ q_i17)) hK hH 59 54 1 (cwc59 C A u12) (cwc54 C A u12) rfl (by decide) (by decide) (by decide) (by decide) (by decide) (by decide) (by decide) (by decide) (cwa54 C A u12) (Nat.le_of_ble_eq_true rfl) (Nat.le_of_ble_eq_true rfl) dX7_copyFrom_106 (fun u13 eu13 H locs hH => ?_)
  have hI := hI.pa0 eu13 (by decide)
  refine lv_aload_n hx hb dX7_copyFrom_109 rfl (lv_at hl 1 rfl) ?_
  refine va_get (ci := 7) (v := .ref (A 60)) (C := RX7) (T := TX7) (N := 16) hx hb hts (fun w h => uc_in w (inX7 w h)) hown hK hH.1 3 (cwc3 C A u13) rfl 11 (by decide) (hts _ (uc_in _ q_f107)) (fun _ h9 => h9) rfl dX7_copyFrom_110 ?_
  refine lv_iconst (v := 0) hx hb dX7_copyFrom_113 (by decide) ?_
  refine lv_aload_n hx hb dX7_copyFrom_114 rfl (lv_at hl 0 rfl) ?_
  refine va_get (ci := 7) (v := .ref (A 55)) (C := RX7) (T := TX7) (N := 16) hx hb hts (fun w h => uc_in w (inX7 w h)) hown hK hH.1 2 (cwc2 C A u13) rfl 11 (by decide) (hts _ (uc_in _ q_f107)) (fun _ h9 => h9) rfl dX7_copyFrom_115 ?_
  refine lv_iconst (v := 0) hx hb dX7_copyFrom_118 (by decide) ?_
  refine lv_bipush (v := 6) hx hb dX7_copyFrom_119 (by decide) ?_
  refine r_copyi (j0 := 60) (j1 := 55) (S' := 0) (P' := 0) (N' := 6) hx hb (by rw [hml]; exact hl.1.symm) hown (hts _ (uc_in _ q_m560)) (hts _ (uc_in _ q_t562)) (hts _ (uc_in _ q_s561)) (hts _ (uc_in _ q_i17)) hK hH 60 55 1 (cwc60 C A u13) (cwc55 C A u13) rfl (by decide) (by decide) (by decide) (by decide) (by decide) (by decide) (by decide) (by decide) (cwa55 C A u13) (Nat.le_of_ble_eq_true rfl) (Nat.le_of_ble_eq_true rfl) dX7_copyFrom_121 (fun u14 eu14 H locs hH => ?_)
  have hI := hI.pa0 eu14 (by decide)
  refine lv_aload_n hx hb dX7_copyFrom_124 rfl (lv_at hl 1 rfl) ?_
  refine va_get (ci := 7) (v := .ref (A 61)) (C := RX7) (T := TX7) (N := 16) hx hb hts (fun w h => uc_in w (inX7 w h)) hown hK hH.1 3 (cwc3 C A u14) rfl 12 (by decide) (hts _ (uc_in _ q_f111)) (fun _ h9 => h9) rfl dX7_copyFrom_125 ?_
  refine lv_iconst (v := 0) hx hb dX7_copyFrom_128 (by decide) ?_
  refine lv_aload_n hx hb dX7_copyFrom_129 rfl (lv_at hl 0 rfl) ?_
  refine va_get (ci := 7) (v := .ref (A 56)) (C := RX7) (T := TX7) (N := 16) hx hb hts (fun w h => uc_in w (inX7 w h)) hown hK hH.1 2 (cwc2 C A u14) rfl 12 (by decide) (hts _ (uc_in _ q_f111)) (fun _ h9 => h9) rfl dX7_copyFrom_130 ?_
  refine lv_iconst (v := 0) hx hb dX7_copyFrom_133 (by decide) ?_
  refine lv_bipush (v := 6) hx hb dX7_copyFrom_134 (by decide) ?_
  refine r_copyi (j0 := 61) (j1 := 56) (S' := 0) (P' := 0) (N' := 6) hx hb (by rw [hml]; exact hl.1.symm) hown (hts _ (uc_in _ q_m560)) (hts _ (uc_in _ q_t562)) (hts _ (uc_in _ q_s561)) (hts _ (uc_in _ q_i17)) hK hH 61 56 1 (cwc61 C A u14) (cwc56 C A u14) rfl (by decide) (by decide) (by decide) (by decide) (by decide) (by decide) (by decide) (by decide) (cwa56 C A u14) (Nat.le_of_ble_eq_true rfl) (Nat.le_of_ble_eq_true rfl) dX7_copyFrom_136 (fun u15 eu15 H locs hH => ?_)
  have hI := hI.pa0 eu15 (by decide)
  refine lv_aload_n hx hb dX7_copyFrom_139 rfl (lv_at hl 1 rfl) ?_
  refine va_get (ci := 7) (v := .ref (A 26)) (C := RX7) (T := TX7) (N := 16) hx hb hts (fun w h => uc_in w (inX7 w h)) hown hK hH.1 3 (cwc3 C A u15) rfl 13 (by decide) (hts _ (uc_in _ q_f115)) (fun _ h9 => h9) rfl dX7_copyFrom_140 ?_
  refine lv_iconst (v := 0) hx hb dX7_copyFrom_143 (by decide) ?_
  refine lv_aload_n hx hb dX7_copyFrom_144 rfl (lv_at hl 0 rfl) ?_
  refine va_get (ci := 7) (v := .ref (A 23)) (C := RX7) (T := TX7) (N := 16) hx hb hts (fun w h => uc_in w (inX7 w h)) hown hK hH.1 2 (cwc2 C A u15) rfl 13 (by decide) (hts _ (uc_in _ q_f115)) (fun _ h9 => h9) rfl dX7_copyFrom_145 ?_
  refine lv_iconst (v := 0) hx hb dX7_copyFrom_148 (by decide) ?_
  refine lv_bipush (v := 40) hx hb dX7_copyFrom_149 (by decide) ?_
  refine r_copyi (j0 := 26) (j1 := 23) (S' := 0) (P' := 0) (N' := 40) hx hb (by rw [hml]; exact hl.1.symm) hown (hts _ (uc_in _ q_m560)) (hts _ (uc_in _ q_t562)) (hts _ (uc_in _ q_s561)) (hts _ (uc_in _ q_i17)) hK hH 26 23 1 (cwc26 C A u15) (cwc23 C A u15) rfl (by decide) (by decide) (by decide) (by decide) (by decide) (by decide) (by decide) (by decide) (cwa23 C A u15) (Nat.le_of_ble_eq_true rfl) (Nat.le_of_ble_eq_true rfl) dX7_copyFrom_151 (fun u16 eu16 H locs hH => ?_)
  have hI := hI.pa0 eu16 (by decide)
  refine lv_aload_n hx hb dX7_copyFrom_154 rfl (lv_at hl 1 rfl) ?_
  refine va_get (ci := 7) (v := .ref (A 27)) (C := RX7) (T := TX7) (N := 16) hx hb hts (fun w h => uc_in w (inX7 w h)) hown hK hH.1 3 (cwc3 C A u16) rfl 14 (by decide) (hts _ (uc_in _ q_f116)) (fun _ h9 => h9) rfl dX7_copyFrom_155 ?_
  refine lv_iconst (v := 0) hx hb dX7_copyFrom_158 (by decide) ?_
  refine lv_aload_n hx hb dX7_copyFrom_159 rfl (lv_at hl 0 rfl) ?_
  refine va_get (ci := 7) (v := .ref (A 24)) (C := RX7) (T := TX7) (N := 16) hx hb hts (fun w h => uc_in w (inX7 w h)) hown hK hH.1 2 (cwc2 C A u16) rfl 14 (by decide) (hts _ (uc_in _ q_f116)) (fun _ h9 => h9) rfl dX7_copyFrom_160 ?_
  refine lv_iconst (v := 0) hx hb dX7_copyFrom_163 (by decide) ?_
  refine lv_bipush (v := 40) hx hb dX7_copyFrom_164 (by decide) ?_
  refine r_copyi (j0 := 27) (j1 := 24) (S' := 0) (P' := 0) (N' := 40) hx hb (by rw [hml]; exact hl.1.symm) hown (hts _ (uc_in _ q_m560)) (hts _ (uc_in _ q_t562)) (hts _ (uc_in _ q_s561)) (hts _ (uc_in _ q_i17)) hK hH 27 24 1 (cwc27 C A u16) (cwc24 C A u16) rfl (by decide) (by decide) (by decide) (by decide) (by decide) (by decide) (by decide) (by decide) (cwa24 C A u16) (Nat.le_of_ble_eq_true rfl) (Nat.le_of_ble_eq_true rfl) dX7_copyFrom_166 (fun u17 eu17 H locs hH => ?_)
  have hI := hI.pa0 eu17 (by decide)
  refine lv_aload_n hx hb dX7_copyFrom_169 rfl (lv_at hl 1 rfl) ?_
  refine va_get (ci := 7) (v := .ref (A 28)) (C := RX7) (T := TX7) (N := 16) hx hb hts (fun w h => uc_in w (inX7 w h)) hown hK hH.1 3 (cwc3 C A u17) rfl 15 (by decide) (hts _ (uc_in _ q_f117)) (fun _ h9 => h9) rfl dX7_copyFrom_170 ?_
  refine lv_iconst (v := 0) hx hb dX7_copyFrom_173 (by decide) ?_
  refine lv_aload_n hx hb dX7_copyFrom_174 rfl (lv_at hl 0 rfl) ?_
  refine va_get (ci := 7) (v := .ref (A 25)) (C := RX7) (T := TX7) (N := 16) hx hb hts (fun w h => uc_in w (inX7 w h)) hown hK hH.1 2 (cwc2 C A u17) rfl 15 (by decide) (hts _ (uc_in _ q_f117)) (fun _ h9 => h9) rfl dX7_copyFrom_175 ?_
  refine lv_iconst (v := 0) hx hb dX7_copyFrom_178 (by decide) ?_
  refine lv_bipush (v := 40) hx hb dX7_copyFrom_179 (by decide) ?_
  refine r_copyi (j0 := 28) (j1 := 25) (S' := 0) (P' := 0) (N' := 40) hx hb (by rw [hml]; exact hl.1.symm) hown (hts _ (uc_in _ q_m560)) (hts _ (uc_in _ q_t562)) (hts _ (uc_in _ q_s561)) (hts _ (uc_in _ q_i17)) hK hH 28 25 1 (cwc28 C A u17) (cwc25 C A u17) rfl (by decide) (by decide) (by decide) (by decide) (by decide) (by decide) (by decide) (by decide) (cwa25 C A u17) (Nat.le_of_ble_eq_true rfl) (Nat.le_of_ble_eq_true rfl) dX7_copyFrom_181 (fun u18 eu18 H locs hH => ?_)
  have hI := hI.pa0 eu18 (by decide)
  exact hret _ _ _ _ _ dX7_copyFrom_184 ⟨hI, (Un.sa (Un.sa (Un.sa (Un.sa (Un.sa (Un.sa (Un.sa (Un.sa (Un.si (Un.si (Un.si (Un.si (Un.si (Un.si (Un.si (Un.si Un.rf rfl eu1) rfl eu2) rfl eu3) rfl eu4) rfl eu6) rfl eu7) rfl eu8) rfl eu10) rfl eu11) rfl eu12) rfl eu13) rfl eu14) rfl eu15) rfl eu16) rfl eu17) rfl eu18), trivial⟩ hH
set_option maxHeartbeats 4000000 in
set_option maxRecDepth 100000 in
theorem kX9_town_0 (l : Launch) (D : va_G) (C : Nat → ClassId) (A : Nat → Nat) (u : St) (hI : IC u) (adK adV : Nat → Nat) (sz : Nat) : MetI l yX9_town cX9_town 1 (some .int) 10 [.ref (A 0)] D (tyl C) (cw C A) (XS adK adV) u sz (fun r u' => IC u' ∧ Un [(1, 1), (2, 2), (3, 3), (4, 4), (5, 5), (6, 6), (7, 7), (8, 8), (9, 9), (10, 10), (11, 11), (12, 12), (13, 13), (14, 14), (15, 15), (16, 16), (17, 17), (18, 18), (19, 19), (20, 20), (21, 21), (22, 22), (23, 23), (48, 48), (49, 49)] [(23, 23), (24, 24), (25, 25), (38, 38), (52, 52), (53, 53), (54, 54), (55, 55), (56, 56), (57, 57), (58, 58), (59, 59), (60, 60), (61, 61), (84, 90)] [] u u' ∧ (True)) := by
  refine mI (by decide) (Nat.le_of_ble_eq_true rfl) ?_
  intro p e s m below meth c ls ar Q hx hb hml hown hts hK hH hX hl hret
  have hown : s.vm.findClass RX9 = some m.cls := hown
  have hl : lv_has ls 1 [(0, .ref (A 0))] := hl
  refine lv_aload_n hx hb dX9_town_0 rfl (lv_at hl 0 rfl) ?_
  refine va_get (ci := 9) (v := .ref (A 1)) (C := RX9) (T := TX9) (N := 12) hx hb hts (fun w h => uc_in w (inX9 w h)) hown hK hH.1 0 (cwc0 C A u) rfl 0 (by decide) (hts _ (uc_in _ q_f383)) (fun _ h9 => h9) rfl dX9_town_1 ?_
  refine lv_aload_n hx hb dX9_town_4 rfl (lv_at hl 0 rfl) ?_
  refine va_get (ci := 9) (v := .ref (A 3)) (C := RX9) (T := TX9) (N := 12) hx hb hts (fun w h => uc_in w (inX9 w h)) hown hK hH.1 0 (cwc0 C A u) rfl 2 (by decide) (hts _ (uc_in _ q_f385)) (fun _ h9 => h9) rfl dX9_town_5 ?_
  refine cvI (n := 1) (As := [.ref (A 3)]) (rest := []) ⟨hx, hb, hml, hown, hts⟩ uc_in (kX6_tell_0 l D C A u hI  adK adV _) q_m436 q_n437 q_e438 q_i2 q_c439 hvX6_tell ⟨(Nat.le_of_ble_eq_true rfl), (Nat.le_of_ble_eq_true rfl)⟩ ⟨(Nat.le_of_ble_eq_true rfl), (Nat.le_of_ble_eq_true rfl)⟩ hK hH (fun q h => Or.inr h) BlS (fun U hU hW => hX.at hH hW hU) 6 1 rfl (cwc1 C A u) rfl hl.1 rfl (Nat.le_of_ble_eq_true rfl) dX9_town_8 (fun r2 u1 H locs p3 hH => ?_)
  obtain ⟨hI, hUu1, p3⟩ := p3
  rcases p3 with ⟨e9, f4⟩ | e9
  · subst e9
    refine lv_if_ne (tgt := 17) hx hb dX9_town_11 (by decide) (fun c5 => ?_) (fun c5 => absurd c5 (by decide))
    refine lv_aload_n hx hb dX9_town_17 rfl (lv_at hl 0 rfl) ?_
    refine va_get (ci := 9) (v := .ref (A 1)) (C := RX9) (T := TX9) (N := 12) hx hb hts (fun w h => uc_in w (inX9 w h)) hown hK hH.1 0 (cwc0 C A u1) rfl 0 (by decide) (hts _ (uc_in _ q_f383)) (fun _ h9 => h9) rfl dX9_town_18 ?_
    refine lv_iconst (v := 0) hx hb dX9_town_21 (by decide) ?_
    refine r_put (j := 1) (ci := 6) (C := RX6) (T := TX6) (N := 8) hx hb hts (fun w h => uc_in w (inX6 w h)) tyX6 tyX6_ok nmX6 hown hK hH 1 (cwc1 C A u1) rfl 1 (by decide) (hts _ (uc_in _ q_f34)) (fun _ h9 => h9) rfl (by decide +kernel) (Nat.le_of_ble_eq_true rfl) (cws1 C A u1 _) dX9_town_22 (fun u6 eu6 H locs hH => ?_)
    have hI := hI.s1 eu6 (X := 0) (by decide) (by decide) (by decide)
    refine lv_aload_n hx hb dX9_town_25 rfl (lv_at hl 0 rfl) ?_
    refine va_get (ci := 9) (v := .ref (A 2)) (C := RX9) (T := TX9) (N := 12) hx hb hts (fun w h => uc_in w (inX9 w h)) hown hK hH.1 0 (cwc0 C A u6) rfl 1 (by decide) (hts _ (uc_in _ q_f384)) (fun _ h9 => h9) rfl dX9_town_26 ?_
    refine lv_aload_n hx hb dX9_town_29 rfl (lv_at hl 0 rfl) ?_
    refine va_get (ci := 9) (v := .ref (A 3)) (C := RX9) (T := TX9) (N := 12) hx hb hts (fun w h => uc_in w (inX9 w h)) hown hK hH.1 0 (cwc0 C A u6) rfl 2 (by decide) (hts _ (uc_in _ q_f385)) (fun _ h9 => h9) rfl dX9_town_30 ?_
    refine cvU (n := 1) (As := [.ref (A 3)]) (rest := []) ⟨hx, hb, hml, hown, hts⟩ uc_in (kX7_copyFrom_6 l D C A u6 hI (hI.2.2 (i_lit (x := gi u6 2) (y := 0) (X := 0) (by have q2 := (show (gi u6 2).toInt = ((gi u1 2)).toInt from (congrArg Int32.toInt (show gi u6 2 = (gi u1 2) from ((gi_ne eu6 (by decide)).trans rfl))).trans rfl); omega) (by decide))) _) q_m556 q_n557 q_e558 q_i3 q_c559 hvX7_copyFrom ⟨(Nat.le_of_ble_eq_true rfl), (Nat.le_of_ble_eq_true rfl)⟩ ⟨(Nat.le_of_ble_eq_true rfl), (Nat.le_of_ble_eq_true rfl)⟩ hK hH (fun q h => Or.inr h) Bl0 (fun _ _ _ => trivial) 7 2 rfl (cwc2 C A u6) rfl hl.1 rfl (Nat.le_of_ble_eq_true rfl) dX9_town_33 (fun u7 H locs p9 hH => ?_)
    obtain ⟨hI, hUu7, p9⟩ := p9
    refine lv_aload_n hx hb dX9_town_36 rfl (lv_at hl 0 rfl) ?_
    refine va_get (ci := 9) (v := .ref (A 7)) (C := RX9) (T := TX9) (N := 12) hx hb hts (fun w h => uc_in w (inX9 w h)) hown hK hH.1 0 (cwc0 C A u7) rfl 5 (by decide) (hts _ (uc_in _ q_f388)) (fun _ h9 => h9) rfl dX9_town_37 ?_
    refine lv_aload_n hx hb dX9_town_40 rfl (lv_at hl 0 rfl) ?_
    refine va_get (ci := 9) (v := .ref (A 2)) (C := RX9) (T := TX9) (N := 12) hx hb hts (fun w h => uc_in w (inX9 w h)) hown hK hH.1 0 (cwc0 C A u7) rfl 1 (by decide) (hts _ (uc_in _ q_f384)) (fun _ h9 => h9) rfl dX9_town_41 ?_
    refine cvU (n := 1) (As := [.ref (A 2)]) (rest := []) ⟨hx, hb, hml, hown, hts⟩ uc_in (kX5_settle_0 l D C A u7 hI  _) q_m563 q_n564 q_e565 q_i4 q_c566 hvX5_settle ⟨(Nat.le_of_ble_eq_true rfl), (Nat.le_of_ble_eq_true rfl)⟩ ⟨(Nat.le_of_ble_eq_true rfl), (Nat.le_of_ble_eq_true rfl)⟩ hK hH (fun q h => Or.inr h) Bl0 (fun _ _ _ => trivial) 5 7 rfl (cwc7 C A u7) rfl hl.1 rfl (Nat.le_of_ble_eq_true rfl) dX9_town_44 (fun u10 H locs p12 hH => ?_)
    obtain ⟨hI, hUu10, p12⟩ := p12
    refine lv_aload_n hx hb dX9_town_47 rfl (lv_at hl 0 rfl) ?_
    refine va_get (ci := 9) (v := .ref (A 2)) (C := RX9) (T := TX9) (N := 12) hx hb hts (fun w h => uc_in w (inX9 w h)) hown hK hH.1 0 (cwc0 C A u10) rfl 1 (by decide) (hts _ (uc_in _ q_f384)) (fun _ h9 => h9) rfl dX9_town_48 ?_
    refine va_get (ci := 7) (v := .int (gi u10 8)) (C := RX7) (T := TX7) (N := 16) hx hb hts (fun w h => uc_in w (inX7 w h)) hown hK hH.1 2 (cwc2 C A u10) rfl 0 (by decide) (hts _ (uc_in _ q_f70)) (fun _ h9 => h9) rfl dX9_town_51 ?_
    exact hret _ _ _ _ (gi u10 8) _ dX9_town_54 rfl ⟨hI, (Un.tr (Un.tr (Un.si (Un.tr Un.rf hUu1 rfl rfl rfl) rfl eu6) hUu7 rfl rfl rfl) hUu10 rfl rfl rfl), trivial⟩ hH
  · subst e9
    refine lv_if_ne (tgt := 17) hx hb dX9_town_11 (by decide) (fun c13 => absurd c13 (by decide)) (fun c13 => ?_)
    refine lv_bipush (v := (-4)) hx hb dX9_town_14 (by decide) ?_
    exact hret _ _ _ _ ((-4) : Int32) _ dX9_town_16 rfl ⟨hI, (Un.tr Un.rf hUu1 rfl rfl rfl), trivial⟩ hH
