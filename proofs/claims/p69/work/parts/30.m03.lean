set_option maxHeartbeats 4000000 in
set_option maxRecDepth 100000 in
theorem kX10_waits_0 (l : Launch) (D : va_G) (C : Nat → ClassId) (A : Nat → Nat) (u : St) (hI : IM u) (sz : Nat) : MetI l yX10_waits cX10_waits 1 (some .int) 7 [.ref (A 0)] D (tyl C) (mw C A) X0 u sz (fun r u' => IM u' ∧ Un [(0, 0), (24, 24), (25, 25)] [(12, 12), (13, 13)] [] u u' ∧ (True)) := by
  refine mI (by decide) (Nat.le_of_ble_eq_true rfl) ?_
  intro p e s m below meth c ls ar Q hx hb hml hown hts hK hH hX hl hret
  have hown : s.vm.findClass RX10 = some m.cls := hown
  have hl : lv_has ls 1 [(0, .ref (A 0))] := hl
  refine lv_aload_n hx hb dX10_waits_0 rfl (lv_at hl 0 rfl) ?_
  refine lv_iconst (v := 0) hx hb dX10_waits_1 (by decide) ?_
  refine r_put (j := 0) (ci := 10) (C := RX10) (T := TX10) (N := 42) hx hb hts (fun w h => uc_in w (inX10 w h)) tyX10 tyX10_ok nmX10 hown hK hH 0 (mwc0 C A u) rfl 0 (by decide) (hts _ (uc_in _ q_f1188)) (fun _ h9 => h9) rfl (by decide +kernel) (Nat.le_of_ble_eq_true rfl) (mws0 C A u _) dX10_waits_2 (fun u1 eu1 H locs hH => ?_)
  have hI := hI.pi0 eu1 rfl
  refine lv_aload_n hx hb dX10_waits_5 rfl (lv_at hl 0 rfl) ?_
  refine cvS (n := 0) (As := []) (rest := []) ⟨hx, hb, hml, hown, hts⟩ uc_in (kX10_isTown_0 l D C A u1 hI ) q_m1554 q_n1556 q_p84 q_i11 q_c1557 hvX10_isTown ⟨(Nat.le_of_ble_eq_true rfl), (Nat.le_of_ble_eq_true rfl)⟩ ⟨(Nat.le_of_ble_eq_true rfl), (Nat.le_of_ble_eq_true rfl)⟩ hK hH.1 10 0 rfl (mwc0 C A u1) rfl hl.1 rfl (Nat.le_of_ble_eq_true rfl) dX10_waits_6 (fun r2 p3 => ?_)
  have p3 : 0 ≤ r2.toInt ∧ r2.toInt ≤ 1 := p3
  refine lv_if_ne (tgt := 15) hx hb dX10_waits_9 (by decide) (fun c4 => ?_) (fun c4 => ?_)
  · have c4 := cNE (x := r2) (y := 0) (X := r2.toInt) (Y := 0) rfl (by decide) c4
    refine lv_aload_n hx hb dX10_waits_15 rfl (lv_at hl 0 rfl) ?_
    refine cvU (n := 0) (As := []) (rest := []) ⟨hx, hb, hml, hown, hts⟩ uc_in (kX10_lays_0 l D C A u1 hI  _) q_m1481 q_n1483 q_p75 q_i11 q_c1484 hvX10_lays ⟨(Nat.le_of_ble_eq_true rfl), (Nat.le_of_ble_eq_true rfl)⟩ ⟨(Nat.le_of_ble_eq_true rfl), (Nat.le_of_ble_eq_true rfl)⟩ hK hH (fun q h => Or.inr h) Bl0 (fun _ _ _ => trivial) 10 0 rfl (mwc0 C A u1) rfl hl.1 rfl (Nat.le_of_ble_eq_true rfl) dX10_waits_16 (fun u5 H locs p7 hH => ?_)
    obtain ⟨hI, hUu5, p7⟩ := p7
    refine lv_aload_n hx hb dX10_waits_19 rfl (lv_at hl 0 rfl) ?_
    refine cvS (n := 0) (As := []) (rest := []) ⟨hx, hb, hml, hown, hts⟩ uc_in (kX10_waitAll_0 l D C A u5 hI ) q_m1558 q_n1560 q_p85 q_i11 q_c1561 hvX10_waitAll ⟨(Nat.le_of_ble_eq_true rfl), (Nat.le_of_ble_eq_true rfl)⟩ ⟨(Nat.le_of_ble_eq_true rfl), (Nat.le_of_ble_eq_true rfl)⟩ hK hH.1 10 0 rfl (mwc0 C A u5) rfl hl.1 rfl (Nat.le_of_ble_eq_true rfl) dX10_waits_20 (fun r8 p9 => ?_)
    exact hret _ _ _ _ r8 _ dX10_waits_23 rfl ⟨hI, (Un.tr (Un.si Un.rf rfl eu1) hUu5 rfl rfl rfl), trivial⟩ hH
  · have c4 := cEQ (x := r2) (y := 0) (X := r2.toInt) (Y := 0) rfl (by decide) c4
    refine lv_bipush (v := (-2)) hx hb dX10_waits_12 (by decide) ?_
    exact hret _ _ _ _ ((-2) : Int32) _ dX10_waits_14 rfl ⟨hI, (Un.si Un.rf rfl eu1), trivial⟩ hH
set_option maxHeartbeats 4000000 in
set_option maxRecDepth 100000 in
theorem kX10_watch_0 (l : Launch) (D : va_G) (C : Nat → ClassId) (A : Nat → Nat) (u : St) (hI : IM u) (a0 : Int32) (A0 : Int) (ha0 : a0.toInt = A0) (sz : Nat) : MetI l yX10_watch cX10_watch 4 (some .int) 5 [.ref (A 0), .int a0] D (tyl C) (mw C A) X0 u sz (fun r u' => IM u' ∧ Un [(0, 0), (24, 24), (25, 25)] [(12, 12), (13, 13)] [] u u' ∧ (True)) := by
  refine mI (by decide) (Nat.le_of_ble_eq_true rfl) ?_
  intro p e s m below meth c ls ar Q hx hb hml hown hts hK hH hX hl hret
  have hown : s.vm.findClass RX10 = some m.cls := hown
  have hl : lv_has ls 4 [(0, .ref (A 0)), (1, .int a0)] := hl
  refine lv_aload_n hx hb dX10_watch_0 rfl (lv_at hl 0 rfl) ?_
  refine lv_iconst (v := 0) hx hb dX10_watch_1 (by decide) ?_
  refine r_put (j := 0) (ci := 10) (C := RX10) (T := TX10) (N := 42) hx hb hts (fun w h => uc_in w (inX10 w h)) tyX10 tyX10_ok nmX10 hown hK hH 0 (mwc0 C A u) rfl 0 (by decide) (hts _ (uc_in _ q_f1188)) (fun _ h9 => h9) rfl (by decide +kernel) (Nat.le_of_ble_eq_true rfl) (mws0 C A u _) dX10_watch_2 (fun u1 eu1 H locs hH => ?_)
  have hI := hI.pi0 eu1 rfl
  refine lv_aload_n hx hb dX10_watch_5 rfl (lv_at hl 0 rfl) ?_
  refine lv_iload_n hx hb dX10_watch_6 rfl (lv_at hl 1 rfl) ?_
  refine cvS (n := 1) (As := [.int a0]) (rest := []) ⟨hx, hb, hml, hown, hts⟩ uc_in (kX10_isLong_0 l D C A u1 hI a0 A0 ha0) q_m1630 q_n1632 q_p90 q_i11 q_c1633 hvX10_isLong ⟨(Nat.le_of_ble_eq_true rfl), (Nat.le_of_ble_eq_true rfl)⟩ ⟨(Nat.le_of_ble_eq_true rfl), (Nat.le_of_ble_eq_true rfl)⟩ hK hH.1 10 0 rfl (mwc0 C A u1) rfl hl.1 rfl (Nat.le_of_ble_eq_true rfl) dX10_watch_7 (fun r2 p3 => ?_)
  have p3 : 0 ≤ r2.toInt ∧ r2.toInt ≤ 1 := p3
  refine lv_if_ne (tgt := 16) hx hb dX10_watch_10 (by decide) (fun c4 => ?_) (fun c4 => ?_)
  · have c4 := cNE (x := r2) (y := 0) (X := r2.toInt) (Y := 0) rfl (by decide) c4
    refine lv_aload_n hx hb dX10_watch_16 rfl (lv_at hl 0 rfl) ?_
    refine cvU (n := 0) (As := []) (rest := []) ⟨hx, hb, hml, hown, hts⟩ uc_in (kX10_lays_0 l D C A u1 hI  _) q_m1481 q_n1483 q_p75 q_i11 q_c1484 hvX10_lays ⟨(Nat.le_of_ble_eq_true rfl), (Nat.le_of_ble_eq_true rfl)⟩ ⟨(Nat.le_of_ble_eq_true rfl), (Nat.le_of_ble_eq_true rfl)⟩ hK hH (fun q h => Or.inr h) Bl0 (fun _ _ _ => trivial) 10 0 rfl (mwc0 C A u1) rfl hl.1 rfl (Nat.le_of_ble_eq_true rfl) dX10_watch_17 (fun u5 H locs p7 hH => ?_)
    obtain ⟨hI, hUu5, p7⟩ := p7
    refine lv_iconst (v := 0) hx hb dX10_watch_20 (by decide) ?_
    refine lv_istore_n (lv' := [(2, .int 0), (0, .ref (A 0)), (1, .int a0)]) hx hb dX10_watch_21 rfl hl (by decide) rfl (fun ls hl => ?_)
    refine lv_iconst (v := 0) hx hb dX10_watch_22 (by decide) ?_
    refine lv_istore_n (lv' := [(3, .int 0), (2, .int 0), (0, .ref (A 0)), (1, .int a0)]) hx hb dX10_watch_23 rfl hl (by decide) rfl (fun ls hl => ?_)
    have lp24_138 : ∀ (n24 : Nat) (ls : Array Slot) (y137d : Int32) (y138d : Int32), 0 ≤ y137d.toInt → y137d.toInt ≤ 7 → 7 - y137d.toInt < (n24 : Int) → lv_has ls 4 [(3, .int y137d), (2, .int y138d), (0, .ref (A 0)), (1, .int a0)] → W p l e (rmL 5 0 0) s m ar below meth c H locs 0 0 Q (F0 m 24 ls []) := by
      intro n24
      induction n24 with
      | zero => intro ls y137d y138d ly137d my137d hmun24 hl; exfalso; omega
      | succ n24 ih24_138 =>
        intro ls y137d y138d ly137d my137d hmun24 hl
        refine lv_iload_n hx hb dX10_watch_24 rfl (lv_at hl 0 rfl) ?_
        refine lv_aload_n hx hb dX10_watch_25 rfl (lv_at hl 2 rfl) ?_
        refine cvS (n := 0) (As := []) (rest := [.int y137d]) ⟨hx, hb, hml, hown, hts⟩ uc_in (kX10_days_0 l D C A u5 hI ) q_m1477 q_n1479 q_p74 q_i11 q_c1480 hvX10_days ⟨(Nat.le_of_ble_eq_true rfl), (Nat.le_of_ble_eq_true rfl)⟩ ⟨(Nat.le_of_ble_eq_true rfl), (Nat.le_of_ble_eq_true rfl)⟩ hK hH.1 10 0 rfl (mwc0 C A u5) rfl hl.1 rfl (Nat.le_of_ble_eq_true rfl) dX10_watch_26 (fun r140 p141 => ?_)
        subst p141
        have b142 : 0 ≤ ((ga u5 7 0)).toInt ∧ ((ga u5 7 0)).toInt ≤ 7 := hI.has 0
        refine lv_icmp_ge (tgt := 57) hx hb dX10_watch_29 (by decide) (fun c143 => ?_) (fun c143 => ?_)
        · have c143 := cLE (x := (ga u5 7 0)) (y := y137d) (X := ((ga u5 7 0)).toInt) (Y := y137d.toInt) rfl rfl c143
          refine lv_iload_n hx hb dX10_watch_57 rfl (lv_at hl 1 rfl) ?_
          exact hret _ _ _ _ y138d _ dX10_watch_58 rfl ⟨hI, (Un.tr (Un.si Un.rf rfl eu1) hUu5 rfl rfl rfl), trivial⟩ hH
        · have c143 := cNLE (x := (ga u5 7 0)) (y := y137d) (X := ((ga u5 7 0)).toInt) (Y := y137d.toInt) rfl rfl c143
          refine lv_iload_n hx hb dX10_watch_32 rfl (lv_at hl 1 rfl) ?_
          refine lv_aload_n hx hb dX10_watch_33 rfl (lv_at hl 2 rfl) ?_
          refine lv_iload_n hx hb dX10_watch_34 rfl (lv_at hl 0 rfl) ?_
          refine cvS (n := 1) (As := [.int y137d]) (rest := [.int y138d]) ⟨hx, hb, hml, hown, hts⟩ uc_in (kX10_noonOf__0 l D C A u5 hI y137d y137d.toInt rfl (by omega) (by omega)) q_m1496 q_n1498 q_p77 q_i11 q_c1499 hvX10_noonOf_ ⟨(Nat.le_of_ble_eq_true rfl), (Nat.le_of_ble_eq_true rfl)⟩ ⟨(Nat.le_of_ble_eq_true rfl), (Nat.le_of_ble_eq_true rfl)⟩ hK hH.1 10 0 rfl (mwc0 C A u5) rfl hl.1 rfl (Nat.le_of_ble_eq_true rfl) dX10_watch_35 (fun r144 p145 => ?_)
          refine lv_iload_n hx hb dX10_watch_38 rfl (lv_at hl 3 rfl) ?_
          have j49_152 : ∀ (ls : Array Slot) (y149d : Int32), 0 ≤ y149d.toInt → y149d.toInt ≤ 64 → lv_has ls 4 [(3, .int y137d), (0, .ref (A 0)), (1, .int a0)] → W p l e (rmL 5 0 0) s m ar below meth c H locs 0 0 Q (F0 m 49 ls [.int y149d, .int y138d]) := by
            intro ls y149d ly149d my149d hl
            refine lv_ior hx hb dX10_watch_49 ?_
            refine p_any (fun z154 => ?_)
            refine lv_istore_n (lv' := [(2, .int z154), (3, .int y137d), (0, .ref (A 0)), (1, .int a0)]) hx hb dX10_watch_50 rfl hl (by decide) rfl (fun ls hl => ?_)
            obtain ⟨z155, ez155⟩ : ∃ z, z = y137d + Int32.ofInt 1 := ⟨_, rfl⟩
            have hz155 : z155.toInt = y137d.toInt + 1 := by rw [ez155]; exact tt_add rfl (by decide) (by omega) (by omega)
            refine lv_iinc (v := z155) (lv' := [(3, .int z155), (2, .int z154), (0, .ref (A 0)), (1, .int a0)]) hx hb dX10_watch_51 hl (k := 1) rfl ez155.symm (by decide) rfl (fun ls hl => ?_)
            refine lv_goto (tgt := 24) hx hb dX10_watch_54 (by decide) ?_
            exact ih24_138 ls z155 z154 (by have q9 := (show z155.toInt = (y137d.toInt + 1) from hz155); omega) (by have q9 := (show z155.toInt = (y137d.toInt + 1) from hz155); omega) (by have q9 := (show z155.toInt = (y137d.toInt + 1) from hz155); omega) hl
          refine lv_icmp_gt (tgt := 48) hx hb dX10_watch_39 (by decide) (fun c146 => ?_) (fun c146 => ?_)
          · have c146 := cLT (x := a0) (y := r144) (X := A0) (Y := r144.toInt) ha0 rfl c146
            refine lv_iconst (v := 0) hx hb dX10_watch_48 (by decide) ?_
            exact j49_152 ls 0 (by decide) (by decide) (lv_sub hl [0, 2, 3] rfl)
          · have c146 := cNLT (x := a0) (y := r144) (X := A0) (Y := r144.toInt) ha0 rfl c146
            refine lv_iconst (v := 1) hx hb dX10_watch_42 (by decide) ?_
            refine lv_iload_n hx hb dX10_watch_43 rfl (lv_at hl 0 rfl) ?_
            refine lv_ishl hx hb dX10_watch_44 ?_
            have gz156 := tt_shl1 (y := y137d) (Y := y137d.toInt) rfl (by omega) (by omega)
            refine p_bd (P := fun q => 1 ≤ q ∧ q ≤ 64) ⟨by omega, by omega⟩ (fun z157 bz157 => ?_)
            have bz157 : 1 ≤ z157.toInt ∧ z157.toInt ≤ 64 := bz157
            refine lv_goto (tgt := 49) hx hb dX10_watch_45 (by decide) ?_
            exact j49_152 ls z157 (by omega) (by omega) (lv_sub hl [0, 2, 3] rfl)
    exact lp24_138 8 ls 0 0 (by decide) (by decide) (by have q9 : (0 : Int32).toInt = 0 := (by decide); omega) hl
  · have c4 := cEQ (x := r2) (y := 0) (X := r2.toInt) (Y := 0) rfl (by decide) c4
    refine lv_bipush (v := (-2)) hx hb dX10_watch_13 (by decide) ?_
    exact hret _ _ _ _ ((-2) : Int32) _ dX10_watch_15 rfl ⟨hI, (Un.si Un.rf rfl eu1), trivial⟩ hH
set_option maxHeartbeats 4000000 in
set_option maxRecDepth 100000 in
theorem kX10_without_0 (l : Launch) (D : va_G) (C : Nat → ClassId) (A : Nat → Nat) (u : St) (hI : IM u) (a0 : Int32) (A0 : Int) (ha0 : a0.toInt = A0) (sz : Nat) : MetI l yX10_without cX10_without 2 (some .int) 8 [.ref (A 0), .int a0] D (tyl C) (mw C A) X0 u sz (fun r u' => IM u' ∧ Un [(0, 0), (24, 24), (25, 25)] [(12, 12), (13, 13)] [] u u' ∧ (True)) := by
  refine mI (by decide) (Nat.le_of_ble_eq_true rfl) ?_
  intro p e s m below meth c ls ar Q hx hb hml hown hts hK hH hX hl hret
  have hown : s.vm.findClass RX10 = some m.cls := hown
  have hl : lv_has ls 2 [(0, .ref (A 0)), (1, .int a0)] := hl
  refine lv_aload_n hx hb dX10_without_0 rfl (lv_at hl 0 rfl) ?_
  refine lv_iconst (v := 0) hx hb dX10_without_1 (by decide) ?_
  refine r_put (j := 0) (ci := 10) (C := RX10) (T := TX10) (N := 42) hx hb hts (fun w h => uc_in w (inX10 w h)) tyX10 tyX10_ok nmX10 hown hK hH 0 (mwc0 C A u) rfl 0 (by decide) (hts _ (uc_in _ q_f1188)) (fun _ h9 => h9) rfl (by decide +kernel) (Nat.le_of_ble_eq_true rfl) (mws0 C A u _) dX10_without_2 (fun u1 eu1 H locs hH => ?_)
  have hI := hI.pi0 eu1 rfl
  refine lv_aload_n hx hb dX10_without_5 rfl (lv_at hl 0 rfl) ?_
  refine lv_iload_n hx hb dX10_without_6 rfl (lv_at hl 1 rfl) ?_
  refine lv_i2l (v := a0.toInt64) hx hb dX10_without_7 rfl ?_
  refine cvS (n := 1) (As := [.long a0.toInt64]) (rest := []) ⟨hx, hb, hml, hown, hts⟩ uc_in (kX10_isClock_0 l D C A u1 hI a0.toInt64 A0 (tt_i2l ha0)) q_m1460 q_n1462 q_p71 q_i11 q_c1463 hvX10_isClock ⟨(Nat.le_of_ble_eq_true rfl), (Nat.le_of_ble_eq_true rfl)⟩ ⟨(Nat.le_of_ble_eq_true rfl), (Nat.le_of_ble_eq_true rfl)⟩ hK hH.1 10 0 rfl (mwc0 C A u1) rfl hl.1 rfl (Nat.le_of_ble_eq_true rfl) dX10_without_8 (fun r2 p3 => ?_)
  rcases p3 with ⟨e9, f4, f5⟩ | e9
  · subst e9
    have b7 : 0 ≤ ((ga u1 7 3)).toInt ∧ ((ga u1 7 3)).toInt ≤ 6 := hI.has 3
    refine lv_if_ne (tgt := 17) hx hb dX10_without_11 (by decide) (fun c8 => ?_) (fun c8 => absurd c8 (by decide))
    refine lv_aload_n hx hb dX10_without_17 rfl (lv_at hl 0 rfl) ?_
    refine cvU (n := 0) (As := []) (rest := []) ⟨hx, hb, hml, hown, hts⟩ uc_in (kX10_lays_0 l D C A u1 hI  _) q_m1481 q_n1483 q_p75 q_i11 q_c1484 hvX10_lays ⟨(Nat.le_of_ble_eq_true rfl), (Nat.le_of_ble_eq_true rfl)⟩ ⟨(Nat.le_of_ble_eq_true rfl), (Nat.le_of_ble_eq_true rfl)⟩ hK hH (fun q h => Or.inr h) Bl0 (fun _ _ _ => trivial) 10 0 rfl (mwc0 C A u1) rfl hl.1 rfl (Nat.le_of_ble_eq_true rfl) dX10_without_18 (fun u9 H locs p11 hH => ?_)
    obtain ⟨hI, hUu9, p11⟩ := p11
    refine lv_aload_n hx hb dX10_without_21 rfl (lv_at hl 0 rfl) ?_
    refine lv_iconst (v := 1) hx hb dX10_without_22 (by decide) ?_
    refine lv_iload_n hx hb dX10_without_23 rfl (lv_at hl 1 rfl) ?_
    refine lv_ishl hx hb dX10_without_24 ?_
    have gz12 := tt_shl1 (y := a0) (Y := A0) ha0 (by omega) (by omega)
    refine p_bd (P := fun q => 1 ≤ q ∧ q ≤ 32) ⟨by omega, by omega⟩ (fun z13 bz13 => ?_)
    have bz13 : 1 ≤ z13.toInt ∧ z13.toInt ≤ 32 := bz13
    refine cvI (n := 1) (As := [.int z13]) (rest := []) ⟨hx, hb, hml, hown, hts⟩ uc_in (kX10_waitWithout_0 l D C A u9 hI z13 z13.toInt rfl _) q_m1589 q_n1591 q_p88 q_i11 q_c1592 hvX10_waitWithout ⟨(Nat.le_of_ble_eq_true rfl), (Nat.le_of_ble_eq_true rfl)⟩ ⟨(Nat.le_of_ble_eq_true rfl), (Nat.le_of_ble_eq_true rfl)⟩ hK hH (fun q h => Or.inr h) Bl0 (fun _ _ _ => trivial) 10 0 rfl (mwc0 C A u9) rfl hl.1 rfl (Nat.le_of_ble_eq_true rfl) dX10_without_25 (fun r15 u14 H locs p16 hH => ?_)
    obtain ⟨hI, hUu14, p16⟩ := p16
    exact hret _ _ _ _ r15 _ dX10_without_28 rfl ⟨hI, (Un.tr (Un.tr (Un.si Un.rf rfl eu1) hUu9 rfl rfl rfl) hUu14 rfl rfl rfl), trivial⟩ hH
  · subst e9
    refine lv_if_ne (tgt := 17) hx hb dX10_without_11 (by decide) (fun c17 => absurd c17 (by decide)) (fun c17 => ?_)
    refine lv_bipush (v := (-2)) hx hb dX10_without_14 (by decide) ?_
    exact hret _ _ _ _ ((-2) : Int32) _ dX10_without_16 rfl ⟨hI, (Un.si Un.rf rfl eu1), trivial⟩ hH
set_option maxHeartbeats 4000000 in
set_option maxRecDepth 100000 in
theorem kX10_worst_0 (l : Launch) (D : va_G) (C : Nat → ClassId) (A : Nat → Nat) (u : St) (hI : IM u) (sz : Nat) : MetI l yX10_worst cX10_worst 4 (some .int) 6 [.ref (A 0)] D (tyl C) (mw C A) X0 u sz (fun r u' => IM u' ∧ Un [(0, 0), (24, 24), (25, 25)] [(12, 12), (13, 13)] [] u u' ∧ ((-2) ≤ r.toInt ∧ r.toInt ≤ 6)) := by
  refine mI (by decide) (Nat.le_of_ble_eq_true rfl) ?_
  intro p e s m below meth c ls ar Q hx hb hml hown hts hK hH hX hl hret
  have hown : s.vm.findClass RX10 = some m.cls := hown
  have hl : lv_has ls 4 [(0, .ref (A 0))] := hl
  refine lv_aload_n hx hb dX10_worst_0 rfl (lv_at hl 0 rfl) ?_
  refine lv_iconst (v := 0) hx hb dX10_worst_1 (by decide) ?_
  refine r_put (j := 0) (ci := 10) (C := RX10) (T := TX10) (N := 42) hx hb hts (fun w h => uc_in w (inX10 w h)) tyX10 tyX10_ok nmX10 hown hK hH 0 (mwc0 C A u) rfl 0 (by decide) (hts _ (uc_in _ q_f1188)) (fun _ h9 => h9) rfl (by decide +kernel) (Nat.le_of_ble_eq_true rfl) (mws0 C A u _) dX10_worst_2 (fun u1 eu1 H locs hH => ?_)
  have hI := hI.pi0 eu1 rfl
  refine lv_aload_n hx hb dX10_worst_5 rfl (lv_at hl 0 rfl) ?_
  refine cvS (n := 0) (As := []) (rest := []) ⟨hx, hb, hml, hown, hts⟩ uc_in (kX10_isTown_0 l D C A u1 hI ) q_m1554 q_n1556 q_p84 q_i11 q_c1557 hvX10_isTown ⟨(Nat.le_of_ble_eq_true rfl), (Nat.le_of_ble_eq_true rfl)⟩ ⟨(Nat.le_of_ble_eq_true rfl), (Nat.le_of_ble_eq_true rfl)⟩ hK hH.1 10 0 rfl (mwc0 C A u1) rfl hl.1 rfl (Nat.le_of_ble_eq_true rfl) dX10_worst_6 (fun r2 p3 => ?_)
  have p3 : 0 ≤ r2.toInt ∧ r2.toInt ≤ 1 := p3
  refine lv_if_ne (tgt := 15) hx hb dX10_worst_9 (by decide) (fun c4 => ?_) (fun c4 => ?_)
  · have c4 := cNE (x := r2) (y := 0) (X := r2.toInt) (Y := 0) rfl (by decide) c4
    refine lv_aload_n hx hb dX10_worst_15 rfl (lv_at hl 0 rfl) ?_
    refine cvU (n := 0) (As := []) (rest := []) ⟨hx, hb, hml, hown, hts⟩ uc_in (kX10_lays_0 l D C A u1 hI  _) q_m1481 q_n1483 q_p75 q_i11 q_c1484 hvX10_lays ⟨(Nat.le_of_ble_eq_true rfl), (Nat.le_of_ble_eq_true rfl)⟩ ⟨(Nat.le_of_ble_eq_true rfl), (Nat.le_of_ble_eq_true rfl)⟩ hK hH (fun q h => Or.inr h) Bl0 (fun _ _ _ => trivial) 10 0 rfl (mwc0 C A u1) rfl hl.1 rfl (Nat.le_of_ble_eq_true rfl) dX10_worst_16 (fun u5 H locs p7 hH => ?_)
    obtain ⟨hI, hUu5, p7⟩ := p7
    refine lv_iconst (v := (-1)) hx hb dX10_worst_19 (by decide) ?_
    refine lv_istore_n (lv' := [(1, .int (-1)), (0, .ref (A 0))]) hx hb dX10_worst_20 rfl hl (by decide) rfl (fun ls hl => ?_)
    refine lv_iconst (v := 0) hx hb dX10_worst_21 (by decide) ?_
    refine lv_istore_n (lv' := [(2, .int 0), (1, .int (-1)), (0, .ref (A 0))]) hx hb dX10_worst_22 rfl hl (by decide) rfl (fun ls hl => ?_)
    refine lv_iconst (v := 0) hx hb dX10_worst_23 (by decide) ?_
    refine lv_istore_n (lv' := [(3, .int 0), (2, .int 0), (1, .int (-1)), (0, .ref (A 0))]) hx hb dX10_worst_24 rfl hl (by decide) rfl (fun ls hl => ?_)
    have lp25_114 : ∀ (n25 : Nat) (ls : Array Slot) (y112d : Int32) (y113d : Int32) (y114d : Int32), 0 ≤ y112d.toInt → y112d.toInt ≤ 7 → (-1) ≤ y114d.toInt → y114d.toInt ≤ 6 → 7 - y112d.toInt < (n25 : Int) → lv_has ls 4 [(3, .int y112d), (2, .int y113d), (1, .int y114d), (0, .ref (A 0))] → W p l e (rmL 6 0 0) s m ar below meth c H locs 0 0 Q (F0 m 25 ls []) := by
      intro n25
      induction n25 with
      | zero => intro ls y112d y113d y114d ly112d my112d ly114d my114d hmun25 hl; exfalso; omega
      | succ n25 ih25_114 =>
        intro ls y112d y113d y114d ly112d my112d ly114d my114d hmun25 hl
        refine lv_iload_n hx hb dX10_worst_25 rfl (lv_at hl 0 rfl) ?_
        refine lv_aload_n hx hb dX10_worst_26 rfl (lv_at hl 3 rfl) ?_
        refine cvS (n := 0) (As := []) (rest := [.int y112d]) ⟨hx, hb, hml, hown, hts⟩ uc_in (kX10_days_0 l D C A u5 hI ) q_m1477 q_n1479 q_p74 q_i11 q_c1480 hvX10_days ⟨(Nat.le_of_ble_eq_true rfl), (Nat.le_of_ble_eq_true rfl)⟩ ⟨(Nat.le_of_ble_eq_true rfl), (Nat.le_of_ble_eq_true rfl)⟩ hK hH.1 10 0 rfl (mwc0 C A u5) rfl hl.1 rfl (Nat.le_of_ble_eq_true rfl) dX10_worst_27 (fun r116 p117 => ?_)
        subst p117
        have b118 : 0 ≤ ((ga u5 7 0)).toInt ∧ ((ga u5 7 0)).toInt ≤ 7 := hI.has 0
        refine lv_icmp_ge (tgt := 59) hx hb dX10_worst_30 (by decide) (fun c119 => ?_) (fun c119 => ?_)
        · have c119 := cLE (x := (ga u5 7 0)) (y := y112d) (X := ((ga u5 7 0)).toInt) (Y := y112d.toInt) rfl rfl c119
          refine lv_iload_n hx hb dX10_worst_59 rfl (lv_at hl 2 rfl) ?_
          exact hret _ _ _ _ y114d _ dX10_worst_60 rfl ⟨hI, (Un.tr (Un.si Un.rf rfl eu1) hUu5 rfl rfl rfl), ⟨by omega, by omega⟩⟩ hH
        · have c119 := cNLE (x := (ga u5 7 0)) (y := y112d) (X := ((ga u5 7 0)).toInt) (Y := y112d.toInt) rfl rfl c119
          refine lv_aload_n hx hb dX10_worst_33 rfl (lv_at hl 3 rfl) ?_
          refine lv_iload_n hx hb dX10_worst_34 rfl (lv_at hl 0 rfl) ?_
          refine cvS (n := 1) (As := [.int y112d]) (rest := []) ⟨hx, hb, hml, hown, hts⟩ uc_in (kX10_waitOf_0 l D C A u5 hI y112d y112d.toInt rfl (by omega) (by omega)) q_m1542 q_n1544 q_p82 q_i11 q_c1545 hvX10_waitOf ⟨(Nat.le_of_ble_eq_true rfl), (Nat.le_of_ble_eq_true rfl)⟩ ⟨(Nat.le_of_ble_eq_true rfl), (Nat.le_of_ble_eq_true rfl)⟩ hK hH.1 10 0 rfl (mwc0 C A u5) rfl hl.1 rfl (Nat.le_of_ble_eq_true rfl) dX10_worst_35 (fun r120 p121 => ?_)
          refine lv_iload_n hx hb dX10_worst_38 rfl (lv_at hl 1 rfl) ?_
          have j53_128 : ∀ (ls : Array Slot) (y125d : Int32) (y126d : Int32), (-1) ≤ y126d.toInt → y126d.toInt ≤ 6 → lv_has ls 4 [(2, .int y125d), (1, .int y126d), (3, .int y112d), (0, .ref (A 0))] → W p l e (rmL 6 0 0) s m ar below meth c H locs 0 0 Q (F0 m 53 ls []) := by
            intro ls y125d y126d ly126d my126d hl
            obtain ⟨z130, ez130⟩ : ∃ z, z = y112d + Int32.ofInt 1 := ⟨_, rfl⟩
            have hz130 : z130.toInt = y112d.toInt + 1 := by rw [ez130]; exact tt_add rfl (by decide) (by omega) (by omega)
            refine lv_iinc (v := z130) (lv' := [(3, .int z130), (2, .int y125d), (1, .int y126d), (0, .ref (A 0))]) hx hb dX10_worst_53 hl (k := 2) rfl ez130.symm (by decide) rfl (fun ls hl => ?_)
            refine lv_goto (tgt := 25) hx hb dX10_worst_56 (by decide) ?_
            exact ih25_114 ls z130 y125d y126d (by have q9 := (show z130.toInt = (y112d.toInt + 1) from hz130); omega) (by have q9 := (show z130.toInt = (y112d.toInt + 1) from hz130); omega) (by omega) (by omega) (by have q9 := (show z130.toInt = (y112d.toInt + 1) from hz130); omega) hl
          refine lv_icmp_gt (tgt := 45) hx hb dX10_worst_39 (by decide) (fun c122 => ?_) (fun c122 => ?_)
          · have c122 := cLT (x := y113d) (y := r120) (X := y113d.toInt) (Y := r120.toInt) rfl rfl c122
            refine lv_iload_n hx hb dX10_worst_45 rfl (lv_at hl 0 rfl) ?_
            refine lv_istore_n (lv' := [(1, .int y112d), (3, .int y112d), (2, .int y113d), (0, .ref (A 0))]) hx hb dX10_worst_46 rfl hl (by decide) rfl (fun ls hl => ?_)
            refine lv_aload_n hx hb dX10_worst_47 rfl (lv_at hl 3 rfl) ?_
            refine lv_iload_n hx hb dX10_worst_48 rfl (lv_at hl 1 rfl) ?_
            refine cvS (n := 1) (As := [.int y112d]) (rest := []) ⟨hx, hb, hml, hown, hts⟩ uc_in (kX10_waitOf_0 l D C A u5 hI y112d y112d.toInt rfl (by omega) (by omega)) q_m1542 q_n1544 q_p82 q_i11 q_c1545 hvX10_waitOf ⟨(Nat.le_of_ble_eq_true rfl), (Nat.le_of_ble_eq_true rfl)⟩ ⟨(Nat.le_of_ble_eq_true rfl), (Nat.le_of_ble_eq_true rfl)⟩ hK hH.1 10 0 rfl (mwc0 C A u5) rfl hl.1 rfl (Nat.le_of_ble_eq_true rfl) dX10_worst_49 (fun r131 p132 => ?_)
            refine lv_istore_n (lv' := [(2, .int r131), (1, .int y112d), (3, .int y112d), (0, .ref (A 0))]) hx hb dX10_worst_52 rfl hl (by decide) rfl (fun ls hl => ?_)
            exact j53_128 ls r131 y112d (by omega) (by omega) hl
          · have c122 := cNLT (x := y113d) (y := r120) (X := y113d.toInt) (Y := r120.toInt) rfl rfl c122
            refine lv_goto (tgt := 53) hx hb dX10_worst_42 (by decide) ?_
            exact j53_128 ls y113d y114d (by omega) (by omega) (lv_sub hl [1, 2, 0, 3] rfl)
    exact lp25_114 8 ls 0 0 (-1) (by decide) (by decide) (by decide) (by decide) (by have q9 : (0 : Int32).toInt = 0 := (by decide); omega) hl
  · have c4 := cEQ (x := r2) (y := 0) (X := r2.toInt) (Y := 0) rfl (by decide) c4
    refine lv_bipush (v := (-2)) hx hb dX10_worst_12 (by decide) ?_
    exact hret _ _ _ _ ((-2) : Int32) _ dX10_worst_14 rfl ⟨hI, (Un.si Un.rf rfl eu1), ⟨by decide, by decide⟩⟩ hH
set_option maxHeartbeats 4000000 in
set_option maxRecDepth 100000 in
theorem kX10_cut_0 (l : Launch) (D : va_G) (C : Nat → ClassId) (A : Nat → Nat) (u : St) (hI : IM u) (a0 : Int64) (A0 : Int) (ha0 : a0.toInt = A0) (a1 : Int32) (A1 : Int) (ha1 : a1.toInt = A1) : Met l yX10_cut (uc yX10_cut cX10_cut 3 (some .long)) (rmL 1 0 0) (va_Pc [.long a0, .int a1] (PreR D (tyl C) (mw C A u))) (vp_Sl (fun _ => True)) 0 0 (fun _ => False) := by
  refine mSl (by decide) (Nat.le_of_ble_eq_true rfl) ?_
  intro p e s m below meth c ls ar Q hx hb hml hown hts hK hP hl hret
  have hown : s.vm.findClass RX10 = some m.cls := hown
  have hl : lv_has ls 3 [(0, .long a0), (2, .int a1)] := hl
  refine lv_iload_n hx hb dX10_cut_0 rfl (lv_at hl 1 rfl) ?_
  refine lv_if_ne (tgt := 11) hx hb dX10_cut_1 (by decide) (fun c1 => ?_) (fun c1 => ?_)
  · refine lv_iload_n hx hb dX10_cut_11 rfl (lv_at hl 1 rfl) ?_
    refine lv_iconst (v := 1) hx hb dX10_cut_12 (by decide) ?_
    refine lv_icmp_ne (tgt := 23) hx hb dX10_cut_13 (by decide) (fun c2 => ?_) (fun c2 => ?_)
    · refine lv_iload_n hx hb dX10_cut_23 rfl (lv_at hl 1 rfl) ?_
      refine lv_iconst (v := 2) hx hb dX10_cut_24 (by decide) ?_
      refine lv_icmp_ne (tgt := 34) hx hb dX10_cut_25 (by decide) (fun c3 => ?_) (fun c3 => ?_)
      · refine lv_lload_n hx hb dX10_cut_34 rfl (lv_at hl 0 rfl) ?_
        exact hret _ _ _ dX10_cut_35 trivial
      · have c3 := cEQ (x := a1) (y := 2) (X := A1) (Y := 2) ha1 (by decide) c3
        refine lv_lload_n hx hb dX10_cut_28 rfl (lv_at hl 0 rfl) ?_
        refine lv_l2i hx hb dX10_cut_29 rfl ?_
        refine p_any (fun z4 => ?_)
        refine lv_i2l (v := z4.toInt64) hx hb dX10_cut_30 rfl ?_
        refine lv_goto (tgt := 35) hx hb dX10_cut_31 (by decide) ?_
        exact hret _ _ _ dX10_cut_35 trivial
    · have c2 := cEQ (x := a1) (y := 1) (X := A1) (Y := 1) ha1 (by decide) c2
      refine lv_lload_n hx hb dX10_cut_16 rfl (lv_at hl 0 rfl) ?_
      refine lv_l2i hx hb dX10_cut_17 rfl ?_
      refine p_any (fun z5 => ?_)
      refine lv_i2s hx hb dX10_cut_18 rfl ?_
      refine p_any (fun z6 => ?_)
      refine lv_i2l (v := z6.toInt64) hx hb dX10_cut_19 rfl ?_
      refine lv_goto (tgt := 35) hx hb dX10_cut_20 (by decide) ?_
      exact hret _ _ _ dX10_cut_35 trivial
  · have c1 := cEQ (x := a1) (y := 0) (X := A1) (Y := 0) ha1 (by decide) c1
    refine lv_lload_n hx hb dX10_cut_4 rfl (lv_at hl 0 rfl) ?_
    refine lv_l2i hx hb dX10_cut_5 rfl ?_
    refine p_any (fun z7 => ?_)
    refine lv_i2b hx hb dX10_cut_6 rfl ?_
    refine p_any (fun z8 => ?_)
    refine lv_i2l (v := z8.toInt64) hx hb dX10_cut_7 rfl ?_
    refine lv_goto (tgt := 35) hx hb dX10_cut_8 (by decide) ?_
    exact hret _ _ _ dX10_cut_35 trivial
set_option maxHeartbeats 4000000 in
set_option maxRecDepth 100000 in
theorem kX10_write_0 (l : Launch) (D : va_G) (C : Nat → ClassId) (A : Nat → Nat) (u : St) (hI : IM u) (a0 : Int32) (A0 : Int) (ha0 : a0.toInt = A0) (a1 : Int32) (A1 : Int) (ha1 : a1.toInt = A1) (a2 : Int64) (A2 : Int) (ha2 : a2.toInt = A2) (sz : Nat) : MetI l yX10_write cX10_write 5 (some .int) 3 [.ref (A 0), .int a0, .int a1, .long a2] D (tyl C) (mw C A) X0 u sz (fun r u' => IM u' ∧ Un [(0, 0)] [] [(3, 3)] u u' ∧ ((-7) ≤ r.toInt ∧ r.toInt ≤ 0)) := by
  refine mI (by decide) (Nat.le_of_ble_eq_true rfl) ?_
  intro p e s m below meth c ls ar Q hx hb hml hown hts hK hH hX hl hret
  have hown : s.vm.findClass RX10 = some m.cls := hown
  have hl : lv_has ls 5 [(0, .ref (A 0)), (1, .int a0), (2, .int a1), (3, .long a2)] := hl
  refine lv_aload_n hx hb dX10_write_0 rfl (lv_at hl 0 rfl) ?_
  refine lv_iconst (v := 0) hx hb dX10_write_1 (by decide) ?_
  refine r_put (j := 0) (ci := 10) (C := RX10) (T := TX10) (N := 42) hx hb hts (fun w h => uc_in w (inX10 w h)) tyX10 tyX10_ok nmX10 hown hK hH 0 (mwc0 C A u) rfl 0 (by decide) (hts _ (uc_in _ q_f1188)) (fun _ h9 => h9) rfl (by decide +kernel) (Nat.le_of_ble_eq_true rfl) (mws0 C A u _) dX10_write_2 (fun u1 eu1 H locs hH => ?_)
  have hI := hI.pi0 eu1 rfl
  refine lv_iload_n hx hb dX10_write_5 rfl (lv_at hl 1 rfl) ?_
  refine csS (n := 1) (As := [.int a0]) (rest := []) ⟨hx, hb, hml, hown, hts⟩ uc_in (kX10_isSlot_0 l D C A u1 hI a0 A0 ha0) q_m1320 q_s1321 q_i11 q_c1322 hvX10_isSlot ⟨(Nat.le_of_ble_eq_true rfl), (Nat.le_of_ble_eq_true rfl)⟩ ⟨(Nat.le_of_ble_eq_true rfl), (Nat.le_of_ble_eq_true rfl)⟩ hK hH.1 rfl hl.1 rfl (Nat.le_of_ble_eq_true rfl) dX10_write_6 (fun r2 p3 => ?_)
  rcases p3 with ⟨e9, f4, f5⟩ | e9
  · subst e9
    refine lv_if_ne (tgt := 15) hx hb dX10_write_9 (by decide) (fun c6 => ?_) (fun c6 => absurd c6 (by decide))
    refine lv_aload_n hx hb dX10_write_15 rfl (lv_at hl 0 rfl) ?_
    refine va_get (ci := 10) (v := .ref (A 1)) (C := RX10) (T := TX10) (N := 42) hx hb hts (fun w h => uc_in w (inX10 w h)) hown hK hH.1 0 (mwc0 C A u1) rfl 1 (by decide) (hts _ (uc_in _ q_f1189)) (fun _ h9 => h9) rfl dX10_write_16 ?_
    refine lv_iload_n hx hb dX10_write_19 rfl (lv_at hl 1 rfl) ?_
    refine va_iald hx hb hK hH.1 1 1 (mwc1 C A u1) rfl (i_ix ha0 (by omega) (by omega)) dX10_write_20 ?_
    have b7 : (-1) ≤ ((ga u1 1 (Int32.toNatClampNeg a0))).toInt ∧ ((ga u1 1 (Int32.toNatClampNeg a0))).toInt ≤ 3 := hI.a1 _
    refine lv_iconst (v := (-1)) hx hb dX10_write_21 (by decide) ?_
    refine lv_icmp_ne (tgt := 28) hx hb dX10_write_22 (by decide) (fun c8 => ?_) (fun c8 => ?_)
    · have c8 := cNE (x := (ga u1 1 (Int32.toNatClampNeg a0))) (y := (-1)) (X := ((ga u1 1 (Int32.toNatClampNeg a0))).toInt) (Y := (-1)) rfl (by decide) c8
      refine lv_iload_n hx hb dX10_write_28 rfl (lv_at hl 2 rfl) ?_
      refine lv_i2l (v := a1.toInt64) hx hb dX10_write_29 rfl ?_
      refine lv_lconst (v := 0) hx hb dX10_write_30 (by decide) ?_
      refine lv_aload_n hx hb dX10_write_31 rfl (lv_at hl 0 rfl) ?_
      refine va_get (ci := 10) (v := .ref (A 2)) (C := RX10) (T := TX10) (N := 42) hx hb hts (fun w h => uc_in w (inX10 w h)) hown hK hH.1 0 (mwc0 C A u1) rfl 2 (by decide) (hts _ (uc_in _ q_f1190)) (fun _ h9 => h9) rfl dX10_write_32 ?_
      refine lv_iload_n hx hb dX10_write_35 rfl (lv_at hl 1 rfl) ?_
      refine va_iald hx hb hK hH.1 2 1 (mwc2 C A u1) rfl (i_ix ha0 (by omega) (by omega)) dX10_write_36 ?_
      have b9 : 0 ≤ ((ga u1 2 (Int32.toNatClampNeg a0))).toInt ∧ ((ga u1 2 (Int32.toNatClampNeg a0))).toInt ≤ 60 := hI.a2 _
      refine lv_iconst (v := 1) hx hb dX10_write_37 (by decide) ?_
      refine lv_isub hx hb dX10_write_38 ?_
      refine p_nm (tt_sub (X := ((ga u1 2 (Int32.toNatClampNeg a0))).toInt) (Y := 1) rfl (by decide) (by omega) (by omega)) (fun z10 hz10 => ?_)
      refine lv_i2l (v := z10.toInt64) hx hb dX10_write_39 rfl ?_
      refine csS (n := 3) (As := [.long a1.toInt64, .long 0, .long z10.toInt64]) (rest := []) ⟨hx, hb, hml, hown, hts⟩ uc_in (kX10_in_0 l D C A u1 hI a1.toInt64 A1 (tt_i2l ha1) (0) 0 (by decide) z10.toInt64 (((ga u1 2 (Int32.toNatClampNeg a0))).toInt - 1) (tt_i2l hz10)) q_m1324 q_s1325 q_i11 q_c1326 hvX10_in ⟨(Nat.le_of_ble_eq_true rfl), (Nat.le_of_ble_eq_true rfl)⟩ ⟨(Nat.le_of_ble_eq_true rfl), (Nat.le_of_ble_eq_true rfl)⟩ hK hH.1 rfl hl.1 rfl (Nat.le_of_ble_eq_true rfl) dX10_write_40 (fun r11 p12 => ?_)
      rcases p12 with ⟨e9, f13, f14⟩ | e9
      · subst e9
        refine lv_if_ne (tgt := 49) hx hb dX10_write_43 (by decide) (fun c15 => ?_) (fun c15 => absurd c15 (by decide))
        refine lv_aload_n hx hb dX10_write_49 rfl (lv_at hl 0 rfl) ?_
        refine va_get (ci := 10) (v := .ref (A 3)) (C := RX10) (T := TX10) (N := 42) hx hb hts (fun w h => uc_in w (inX10 w h)) hown hK hH.1 0 (mwc0 C A u1) rfl 3 (by decide) (hts _ (uc_in _ q_f1191)) (fun _ h9 => h9) rfl dX10_write_50 ?_
        refine lv_bipush (v := 60) hx hb dX10_write_53 (by decide) ?_
        refine lv_iload_n hx hb dX10_write_55 rfl (lv_at hl 1 rfl) ?_
        refine lv_imul hx hb dX10_write_56 ?_
        refine p_nm (tt_mul (X := 60) (Y := A0) (by decide) ha0 (by omega) (by omega)) (fun z16 hz16 => ?_)
        refine lv_iload_n hx hb dX10_write_57 rfl (lv_at hl 2 rfl) ?_
        refine lv_iadd hx hb dX10_write_58 ?_
        refine p_nm (tt_add (X := (60 * A0)) (Y := A1) hz16 ha1 (by omega) (by omega)) (fun z17 hz17 => ?_)
        refine lv_lload_n hx hb dX10_write_59 rfl (lv_at hl 3 rfl) ?_
        refine lv_aload_n hx hb dX10_write_60 rfl (lv_at hl 0 rfl) ?_
        refine va_get (ci := 10) (v := .ref (A 1)) (C := RX10) (T := TX10) (N := 42) hx hb hts (fun w h => uc_in w (inX10 w h)) hown hK hH.1 0 (mwc0 C A u1) rfl 1 (by decide) (hts _ (uc_in _ q_f1189)) (fun _ h9 => h9) rfl dX10_write_61 ?_
        refine lv_iload_n hx hb dX10_write_64 rfl (lv_at hl 1 rfl) ?_
        refine va_iald hx hb hK hH.1 1 1 (mwc1 C A u1) rfl (i_ix ha0 (by omega) (by omega)) dX10_write_65 ?_
        refine pv_i (v := (ga u1 1 (Int32.toNatClampNeg a0))) rfl ?_
        refine csSl (n := 2) (As := [.long a2, .int (ga u1 1 (Int32.toNatClampNeg a0))]) (rest := [.int z17, .ref (A 3)]) ⟨hx, hb, hml, hown, hts⟩ uc_in (kX10_cut_0 l D C A u1 hI a2 A2 ha2 (ga u1 1 (Int32.toNatClampNeg a0)) (((ga u1 1 (Int32.toNatClampNeg a0))).toInt) rfl) q_m1331 q_s1332 q_i11 q_c1333 hvX10_cut ⟨(Nat.le_of_ble_eq_true rfl), (Nat.le_of_ble_eq_true rfl)⟩ ⟨(Nat.le_of_ble_eq_true rfl), (Nat.le_of_ble_eq_true rfl)⟩ hK hH.1 rfl hl.1 rfl (Nat.le_of_ble_eq_true rfl) dX10_write_66 (fun r18 p19 => ?_)
        refine r_last (j := 3) hx hb hK hH 3 2 (mwc3 C A u1) rfl (i_ix hz17 (by omega) (by omega)) (mwb3 C A u1) dX10_write_69 (fun u20 eu20 H locs hH => ?_)
        have hI := hI.pb_ eu20
        refine lv_iconst (v := 0) hx hb dX10_write_70 (by decide) ?_
        exact hret _ _ _ _ (0 : Int32) _ dX10_write_71 rfl ⟨hI, (Un.sb (Un.si Un.rf rfl eu1) rfl eu20), ⟨by decide, by decide⟩⟩ hH
      · subst e9
        refine lv_if_ne (tgt := 49) hx hb dX10_write_43 (by decide) (fun c21 => absurd c21 (by decide)) (fun c21 => ?_)
        refine lv_bipush (v := (-7)) hx hb dX10_write_46 (by decide) ?_
        exact hret _ _ _ _ ((-7) : Int32) _ dX10_write_48 rfl ⟨hI, (Un.si Un.rf rfl eu1), ⟨by decide, by decide⟩⟩ hH
    · have c8 := cEQ (x := (ga u1 1 (Int32.toNatClampNeg a0))) (y := (-1)) (X := ((ga u1 1 (Int32.toNatClampNeg a0))).toInt) (Y := (-1)) rfl (by decide) c8
      refine lv_bipush (v := (-6)) hx hb dX10_write_25 (by decide) ?_
      exact hret _ _ _ _ ((-6) : Int32) _ dX10_write_27 rfl ⟨hI, (Un.si Un.rf rfl eu1), ⟨by decide, by decide⟩⟩ hH
  · subst e9
    refine lv_if_ne (tgt := 15) hx hb dX10_write_9 (by decide) (fun c22 => absurd c22 (by decide)) (fun c22 => ?_)
    refine lv_bipush (v := (-2)) hx hb dX10_write_12 (by decide) ?_
    exact hret _ _ _ _ ((-2) : Int32) _ dX10_write_14 rfl ⟨hI, (Un.si Un.rf rfl eu1), ⟨by decide, by decide⟩⟩ hH
