set_option maxHeartbeats 4000000 in
set_option maxRecDepth 100000 in
theorem kX10_roundFrom_6 (l : Launch) (D : va_G) (C : Nat → ClassId) (A : Nat → Nat) (u : St) (hI : IM u) (a0 : Int32) (A0 : Int) (ha0 : a0.toInt = A0) (a2 : Int32) (A2 : Int) (ha2 : a2.toInt = A2) (a3 : Int32) (A3 : Int) (ha3 : a3.toInt = A3) (a4 : Int32) (A4 : Int) (ha4 : a4.toInt = A4) (hl0 : 0 ≤ A0) (hm0 : A0 ≤ 6) (hl2 : 0 ≤ A2) (hm2 : A2 ≤ 63) (hpc : PCk a2 0) (sz : Nat) : MetV l yX10_roundFrom cX10_roundFrom 7 2 [.ref (A 0), .int a0, .int 6, .int a2, .int a3, .int a4] D (tyl C) (mw C A) X0 u sz (fun u' => IM u' ∧ Un [(33, 33)] [(17, 17)] [] u u' ∧ True) := by
  refine mV (by decide) (Nat.le_of_ble_eq_true rfl) ?_
  intro p e s m below meth c ls ar Q hx hb hml hown hts hK hH hX hl hret
  have hown : s.vm.findClass RX10 = some m.cls := hown
  have hl : lv_has ls 7 [(0, .ref (A 0)), (1, .int a0), (2, .int 6), (3, .int a2), (4, .int a3), (5, .int a4)] := hl
  refine lv_iload_n hx hb dX10_roundFrom_0 rfl (lv_at hl 3 rfl) ?_
  refine lv_if_ne (tgt := 50) hx hb dX10_roundFrom_1 (by decide) (fun c1 => ?_) (fun c1 => ?_)
  · have c1 := cNE (x := a2) (y := 0) (X := A2) (Y := 0) ha2 (by decide) c1
    refine lv_iconst (v := 0) hx hb dX10_roundFrom_50 (by decide) ?_
    refine lv_istore (lv' := [(6, .int 0), (0, .ref (A 0)), (1, .int a0), (2, .int 6), (3, .int a2), (4, .int a3), (5, .int a4)]) hx hb dX10_roundFrom_51 hl (by decide) rfl (fun ls hl => ?_)
    have lp53_55 : ∀ (n53 : Nat) (ls : Array Slot) (y55d : Int32), 0 ≤ y55d.toInt → y55d.toInt ≤ 6 → 6 - y55d.toInt < (n53 : Int) → lv_has ls 7 [(6, .int y55d), (0, .ref (A 0)), (1, .int a0), (2, .int 6), (3, .int a2), (4, .int a3), (5, .int a4)] → W p l e (rmL 2 0 0) s m ar below meth c s.heap [] 0 0 Q (F0 m 53 ls []) := by
      intro n53
      induction n53 with
      | zero => intro ls y55d ly55d my55d hmun53 hl; exfalso; omega
      | succ n53 ih53_55 =>
        intro ls y55d ly55d my55d hmun53 hl
        refine lv_iload hx hb dX10_roundFrom_53 (lv_at hl 0 rfl) ?_
        refine lv_aload_n hx hb dX10_roundFrom_55 rfl (lv_at hl 1 rfl) ?_
        refine cvS (n := 0) (As := []) (rest := [.int y55d]) ⟨hx, hb, hml, hown, hts⟩ uc_in (kX10_clocks_0 l D C A u hI ) q_m1464 q_n1466 q_p72 q_i11 q_c1467 hvX10_clocks ⟨(Nat.le_of_ble_eq_true rfl), (Nat.le_of_ble_eq_true rfl)⟩ ⟨(Nat.le_of_ble_eq_true rfl), (Nat.le_of_ble_eq_true rfl)⟩ hK hH.1 10 0 rfl (mwc0 C A u) rfl hl.1 rfl (Nat.le_of_ble_eq_true rfl) dX10_roundFrom_56 (fun r57 p58 => ?_)
        subst p58
        have b59 : 0 ≤ ((ga u 7 3)).toInt ∧ ((ga u 7 3)).toInt ≤ 6 := hI.has 3
        refine lv_icmp_ge (tgt := 124) hx hb dX10_roundFrom_59 (by decide) (fun c60 => ?_) (fun c60 => ?_)
        · have c60 := cLE (x := (ga u 7 3)) (y := y55d) (X := ((ga u 7 3)).toInt) (Y := y55d.toInt) rfl rfl c60
          exact hret _ _ _ _ _ dX10_roundFrom_124 ⟨hI, Un.rf, trivial⟩ hH
        · have c60 := cNLE (x := (ga u 7 3)) (y := y55d) (X := ((ga u 7 3)).toInt) (Y := y55d.toInt) rfl rfl c60
          refine lv_iload_n hx hb dX10_roundFrom_62 rfl (lv_at hl 4 rfl) ?_
          refine lv_iload hx hb dX10_roundFrom_63 (lv_at hl 0 rfl) ?_
          refine csS (n := 2) (As := [.int a2, .int y55d]) (rest := []) ⟨hx, hb, hml, hown, hts⟩ uc_in (kX10_isBit_0 l D C A u hI a2 A2 ha2 y55d y55d.toInt rfl) q_m1489 q_s1490 q_i11 q_c1491 hvX10_isBit ⟨(Nat.le_of_ble_eq_true rfl), (Nat.le_of_ble_eq_true rfl)⟩ ⟨(Nat.le_of_ble_eq_true rfl), (Nat.le_of_ble_eq_true rfl)⟩ hK hH.1 rfl hl.1 rfl (Nat.le_of_ble_eq_true rfl) dX10_roundFrom_65 (fun r61 p62 => ?_)
          rcases p62 with ⟨e9, f63⟩ | ⟨e9, -⟩
          · subst e9
            exact (PC_no rfl (by omega) (by omega) f63 hpc).elim
          · subst e9
            refine lv_if_ne (tgt := 74) hx hb dX10_roundFrom_68 (by decide) (fun c64 => absurd c64 (by decide)) (fun c64 => ?_)
            refine lv_goto (tgt := 118) hx hb dX10_roundFrom_71 (by decide) ?_
            obtain ⟨z65, ez65⟩ : ∃ z, z = y55d + Int32.ofInt 1 := ⟨_, rfl⟩
            have hz65 : z65.toInt = y55d.toInt + 1 := by rw [ez65]; exact tt_add rfl (by decide) (by omega) (by omega)
            refine lv_iinc (v := z65) (lv' := [(6, .int z65), (0, .ref (A 0)), (1, .int a0), (2, .int 6), (3, .int a2), (4, .int a3), (5, .int a4)]) hx hb dX10_roundFrom_118 hl (k := 0) rfl ez65.symm (by decide) rfl (fun ls hl => ?_)
            refine lv_goto (tgt := 53) hx hb dX10_roundFrom_121 (by decide) ?_
            exact ih53_55 ls z65 (by have q9 := (show z65.toInt = (y55d.toInt + 1) from hz65); omega) (by have q9 := (show z65.toInt = (y55d.toInt + 1) from hz65); omega) (by have q9 := (show z65.toInt = (y55d.toInt + 1) from hz65); omega) hl
    exact lp53_55 7 ls 0 (by decide) (by decide) (by have q9 : (0 : Int32).toInt = 0 := (by decide); omega) hl
  · have c1 := cEQ (x := a2) (y := 0) (X := A2) (Y := 0) ha2 (by decide) c1
    refine lv_iload hx hb dX10_roundFrom_4 (lv_at hl 5 rfl) ?_
    refine lv_aload_n hx hb dX10_roundFrom_6 rfl (lv_at hl 0 rfl) ?_
    refine va_get (ci := 10) (v := .int (gi u 33)) (C := RX10) (T := TX10) (N := 42) hx hb hts (fun w h => uc_in w (inX10 w h)) hown hK hH.1 0 (mwc0 C A u) rfl 33 (by decide) (hts _ (uc_in _ q_f1221)) (fun _ h9 => h9) rfl dX10_roundFrom_7 ?_
    refine lv_icmp_lt (tgt := 14) hx hb dX10_roundFrom_10 (by decide) (fun c66 => ?_) (fun c66 => ?_)
    · have c66 := cLT (x := a4) (y := (gi u 33)) (X := A4) (Y := ((gi u 33)).toInt) ha4 rfl c66
      refine lv_aload_n hx hb dX10_roundFrom_14 rfl (lv_at hl 0 rfl) ?_
      refine lv_iload hx hb dX10_roundFrom_15 (lv_at hl 5 rfl) ?_
      refine r_put (j := 33) (ci := 10) (C := RX10) (T := TX10) (N := 42) hx hb hts (fun w h => uc_in w (inX10 w h)) tyX10 tyX10_ok nmX10 hown hK hH 0 (mwc0 C A u) rfl 33 (by decide) (hts _ (uc_in _ q_f1221)) (fun _ h9 => h9) rfl (by decide +kernel) (Nat.le_of_ble_eq_true rfl) (mws33 C A u _) dX10_roundFrom_17 (fun u67 eu67 H locs hH => ?_)
      have hI := hI.pi0 eu67 rfl
      refine lv_iconst (v := 0) hx hb dX10_roundFrom_20 (by decide) ?_
      refine lv_istore (lv' := [(6, .int 0), (0, .ref (A 0)), (1, .int a0), (2, .int 6), (3, .int a2), (4, .int a3), (5, .int a4)]) hx hb dX10_roundFrom_21 hl (by decide) rfl (fun ls hl => ?_)
      have lp23_105 : ∀ (n23 : Nat) (ls : Array Slot) (y104d : Int32) (u105 : St) (H : Heap) (locs : List Loc), 0 ≤ y104d.toInt → y104d.toInt ≤ 6 → 6 - y104d.toInt < (n23 : Int) → Un [] [(17, 17)] [] u67 u105 → IM u105 → Hd D (mw C A) (va_A (mw C A u) s.heap.size) s.heap u105 H locs → lv_has ls 7 [(6, .int y104d), (0, .ref (A 0)), (2, .int 6)] → W p l e (rmL 2 0 0) s m ar below meth c H locs 0 0 Q (F0 m 23 ls []) := by
        intro n23
        induction n23 with
        | zero => intro ls y104d u105 H locs ly104d my104d hmun23 hUu105 hI hH hl; exfalso; omega
        | succ n23 ih23_105 =>
          intro ls y104d u105 H locs ly104d my104d hmun23 hUu105 hI hH hl
          refine lv_iload hx hb dX10_roundFrom_23 (lv_at hl 0 rfl) ?_
          refine lv_iload_n hx hb dX10_roundFrom_25 rfl (lv_at hl 2 rfl) ?_
          refine lv_icmp_ge (tgt := 49) hx hb dX10_roundFrom_26 (by decide) (fun c107 => ?_) (fun c107 => ?_)
          · have c107 := cLE (x := 6) (y := y104d) (X := 6) (Y := y104d.toInt) (by decide) rfl c107
            exact hret _ _ _ _ _ dX10_roundFrom_49 ⟨hI, (Un.tr (Un.si Un.rf rfl eu67) hUu105 rfl rfl rfl), trivial⟩ hH
          · have c107 := cNLE (x := 6) (y := y104d) (X := 6) (Y := y104d.toInt) (by decide) rfl c107
            refine lv_aload_n hx hb dX10_roundFrom_29 rfl (lv_at hl 1 rfl) ?_
            refine va_get (ci := 10) (v := .ref (A 17)) (C := RX10) (T := TX10) (N := 42) hx hb hts (fun w h => uc_in w (inX10 w h)) hown hK hH.1 0 (mwc0 C A u105) rfl 32 (by decide) (hts _ (uc_in _ q_f1220)) (fun _ h9 => h9) rfl dX10_roundFrom_30 ?_
            refine lv_iload hx hb dX10_roundFrom_33 (lv_at hl 0 rfl) ?_
            refine lv_aload_n hx hb dX10_roundFrom_35 rfl (lv_at hl 1 rfl) ?_
            refine va_get (ci := 10) (v := .ref (A 16)) (C := RX10) (T := TX10) (N := 42) hx hb hts (fun w h => uc_in w (inX10 w h)) hown hK hH.1 0 (mwc0 C A u105) rfl 31 (by decide) (hts _ (uc_in _ q_f1219)) (fun _ h9 => h9) rfl dX10_roundFrom_36 ?_
            refine lv_iload hx hb dX10_roundFrom_39 (lv_at hl 0 rfl) ?_
            refine va_iald hx hb hK hH.1 16 1 (mwc16 C A u105) rfl (i_ix rfl (by omega) (by omega)) dX10_roundFrom_41 ?_
            refine p_any (fun z108 => ?_)
            refine r_iast (j := 17) hx hb hK hH 17 1 (mwc17 C A u105) rfl (i_ix rfl (by omega) (by omega)) (mwa17 C A u105) dX10_roundFrom_42 (fun u109 eu109 H locs hH => ?_)
            have hI := hI.pa0 eu109 (by decide) (by decide) (by decide)
            obtain ⟨z110, ez110⟩ : ∃ z, z = y104d + Int32.ofInt 1 := ⟨_, rfl⟩
            have hz110 : z110.toInt = y104d.toInt + 1 := by rw [ez110]; exact tt_add rfl (by decide) (by omega) (by omega)
            refine lv_iinc (v := z110) (lv' := [(6, .int z110), (0, .ref (A 0)), (2, .int 6)]) hx hb dX10_roundFrom_43 hl (k := 0) rfl ez110.symm (by decide) rfl (fun ls hl => ?_)
            refine lv_goto (tgt := 23) hx hb dX10_roundFrom_46 (by decide) ?_
            exact ih23_105 ls z110 u109 _ _ (by have q9 := (show z110.toInt = (y104d.toInt + 1) from hz110); omega) (by have q9 := (show z110.toInt = (y104d.toInt + 1) from hz110); omega) (by have q9 := (show z110.toInt = (y104d.toInt + 1) from hz110); omega) (Un.sa hUu105 rfl eu109) hI hH hl
      exact lp23_105 7 ls 0 u67 _ _ (by decide) (by decide) (by have q9 : (0 : Int32).toInt = 0 := (by decide); omega) Un.rf hI hH (lv_sub hl [0, 1, 3] rfl)
    · have c66 := cNLT (x := a4) (y := (gi u 33)) (X := A4) (Y := ((gi u 33)).toInt) ha4 rfl c66
      exact hret _ _ _ _ _ dX10_roundFrom_13 ⟨hI, Un.rf, trivial⟩ hH
set_option maxHeartbeats 4000000 in
set_option maxRecDepth 100000 in
theorem kX10_roundFrom_5 (l : Launch) (D : va_G) (C : Nat → ClassId) (A : Nat → Nat) (u : St) (hI : IM u) (a0 : Int32) (A0 : Int) (ha0 : a0.toInt = A0) (a2 : Int32) (A2 : Int) (ha2 : a2.toInt = A2) (a3 : Int32) (A3 : Int) (ha3 : a3.toInt = A3) (a4 : Int32) (A4 : Int) (ha4 : a4.toInt = A4) (hl0 : 0 ≤ A0) (hm0 : A0 ≤ 6) (hl2 : 0 ≤ A2) (hm2 : A2 ≤ 63) (hpc : PCk a2 1) (sz : Nat) : MetV l yX10_roundFrom cX10_roundFrom 7 3 [.ref (A 0), .int a0, .int 5, .int a2, .int a3, .int a4] D (tyl C) (mw C A) X0 u sz (fun u' => IM u' ∧ Un [(33, 33)] [(16, 16), (17, 17)] [] u u' ∧ True) := by
  refine mV (by decide) (Nat.le_of_ble_eq_true rfl) ?_
  intro p e s m below meth c ls ar Q hx hb hml hown hts hK hH hX hl hret
  have hown : s.vm.findClass RX10 = some m.cls := hown
  have hl : lv_has ls 7 [(0, .ref (A 0)), (1, .int a0), (2, .int 5), (3, .int a2), (4, .int a3), (5, .int a4)] := hl
  refine lv_iload_n hx hb dX10_roundFrom_0 rfl (lv_at hl 3 rfl) ?_
  refine lv_if_ne (tgt := 50) hx hb dX10_roundFrom_1 (by decide) (fun c1 => ?_) (fun c1 => ?_)
  · have c1 := cNE (x := a2) (y := 0) (X := A2) (Y := 0) ha2 (by decide) c1
    refine lv_iconst (v := 0) hx hb dX10_roundFrom_50 (by decide) ?_
    refine lv_istore (lv' := [(6, .int 0), (0, .ref (A 0)), (1, .int a0), (2, .int 5), (3, .int a2), (4, .int a3), (5, .int a4)]) hx hb dX10_roundFrom_51 hl (by decide) rfl (fun ls hl => ?_)
    have lp53_149 : ∀ (n53 : Nat) (ls : Array Slot) (y148d : Int32) (u149 : St) (H : Heap) (locs : List Loc), 0 ≤ y148d.toInt → y148d.toInt ≤ 6 → 6 - y148d.toInt < (n53 : Int) → Un [(33, 33)] [(16, 16), (17, 17)] [] u u149 → IM u149 → Hd D (mw C A) (va_A (mw C A u) s.heap.size) s.heap u149 H locs → lv_has ls 7 [(6, .int y148d), (0, .ref (A 0)), (1, .int a0), (2, .int 5), (3, .int a2), (4, .int a3), (5, .int a4)] → W p l e (rmL 3 0 0) s m ar below meth c H locs 0 0 Q (F0 m 53 ls []) := by
      intro n53
      induction n53 with
      | zero => intro ls y148d u149 H locs ly148d my148d hmun53 hUu149 hI hH hl; exfalso; omega
      | succ n53 ih53_149 =>
        intro ls y148d u149 H locs ly148d my148d hmun53 hUu149 hI hH hl
        refine lv_iload hx hb dX10_roundFrom_53 (lv_at hl 0 rfl) ?_
        refine lv_aload_n hx hb dX10_roundFrom_55 rfl (lv_at hl 1 rfl) ?_
        refine cvS (n := 0) (As := []) (rest := [.int y148d]) ⟨hx, hb, hml, hown, hts⟩ uc_in (kX10_clocks_0 l D C A u149 hI ) q_m1464 q_n1466 q_p72 q_i11 q_c1467 hvX10_clocks ⟨(Nat.le_of_ble_eq_true rfl), (Nat.le_of_ble_eq_true rfl)⟩ ⟨(Nat.le_of_ble_eq_true rfl), (Nat.le_of_ble_eq_true rfl)⟩ hK hH.1 10 0 rfl (mwc0 C A u149) rfl hl.1 rfl (Nat.le_of_ble_eq_true rfl) dX10_roundFrom_56 (fun r151 p152 => ?_)
        subst p152
        have b153 : 0 ≤ ((ga u149 7 3)).toInt ∧ ((ga u149 7 3)).toInt ≤ 6 := hI.has 3
        refine lv_icmp_ge (tgt := 124) hx hb dX10_roundFrom_59 (by decide) (fun c154 => ?_) (fun c154 => ?_)
        · have c154 := cLE (x := (ga u149 7 3)) (y := y148d) (X := ((ga u149 7 3)).toInt) (Y := y148d.toInt) rfl rfl c154
          exact hret _ _ _ _ _ dX10_roundFrom_124 ⟨hI, (Un.tr Un.rf hUu149 rfl rfl rfl), trivial⟩ hH
        · have c154 := cNLE (x := (ga u149 7 3)) (y := y148d) (X := ((ga u149 7 3)).toInt) (Y := y148d.toInt) rfl rfl c154
          refine lv_iload_n hx hb dX10_roundFrom_62 rfl (lv_at hl 4 rfl) ?_
          refine lv_iload hx hb dX10_roundFrom_63 (lv_at hl 0 rfl) ?_
          refine csS (n := 2) (As := [.int a2, .int y148d]) (rest := []) ⟨hx, hb, hml, hown, hts⟩ uc_in (kX10_isBit_0 l D C A u149 hI a2 A2 ha2 y148d y148d.toInt rfl) q_m1489 q_s1490 q_i11 q_c1491 hvX10_isBit ⟨(Nat.le_of_ble_eq_true rfl), (Nat.le_of_ble_eq_true rfl)⟩ ⟨(Nat.le_of_ble_eq_true rfl), (Nat.le_of_ble_eq_true rfl)⟩ hK hH.1 rfl hl.1 rfl (Nat.le_of_ble_eq_true rfl) dX10_roundFrom_65 (fun r155 p156 => ?_)
          rcases p156 with ⟨e9, f157⟩ | ⟨e9, -⟩
          · subst e9
            refine lv_if_ne (tgt := 74) hx hb dX10_roundFrom_68 (by decide) (fun c158 => ?_) (fun c158 => absurd c158 (by decide))
            refine lv_aload_n hx hb dX10_roundFrom_74 rfl (lv_at hl 1 rfl) ?_
            refine va_get (ci := 10) (v := .ref (A 16)) (C := RX10) (T := TX10) (N := 42) hx hb hts (fun w h => uc_in w (inX10 w h)) hown hK hH.1 0 (mwc0 C A u149) rfl 31 (by decide) (hts _ (uc_in _ q_f1219)) (fun _ h9 => h9) rfl dX10_roundFrom_75 ?_
            refine lv_iload_n hx hb dX10_roundFrom_78 rfl (lv_at hl 3 rfl) ?_
            refine lv_iload hx hb dX10_roundFrom_79 (lv_at hl 0 rfl) ?_
            refine r_iast (j := 16) hx hb hK hH 16 1 (mwc16 C A u149) rfl (i_ix (X := 5) (by decide) (by decide) (by decide)) (mwa16 C A u149) dX10_roundFrom_81 (fun u159 eu159 H locs hH => ?_)
            have hI := hI.pa0 eu159 (by decide) (by decide) (by decide)
            refine lv_aload_n hx hb dX10_roundFrom_82 rfl (lv_at hl 1 rfl) ?_
            refine lv_iload_n hx hb dX10_roundFrom_83 rfl (lv_at hl 2 rfl) ?_
            refine lv_iload_n hx hb dX10_roundFrom_84 rfl (lv_at hl 3 rfl) ?_
            refine lv_iconst (v := 1) hx hb dX10_roundFrom_85 (by decide) ?_
            refine lv_iadd hx hb dX10_roundFrom_86 ?_
            refine pv_i (v := 6) (by decide) ?_
            refine lv_iload_n hx hb dX10_roundFrom_87 rfl (lv_at hl 4 rfl) ?_
            refine lv_iconst (v := 1) hx hb dX10_roundFrom_88 (by decide) ?_
            refine lv_iload hx hb dX10_roundFrom_89 (lv_at hl 0 rfl) ?_
            refine lv_ishl hx hb dX10_roundFrom_91 ?_
            refine lv_topi (fun z160 ez160 => ?_)
            refine lv_iconst (v := (-1)) hx hb dX10_roundFrom_92 (by decide) ?_
            refine lv_ixor hx hb dX10_roundFrom_93 ?_
            refine lv_topi (fun z161 ez161 => ?_)
            refine lv_iand hx hb dX10_roundFrom_94 ?_
            refine lv_topi (fun z162 ez162 => ?_)
            refine lv_aload_n hx hb dX10_roundFrom_95 rfl (lv_at hl 1 rfl) ?_
            refine va_get (ci := 10) (v := .ref (A 8)) (C := RX10) (T := TX10) (N := 42) hx hb hts (fun w h => uc_in w (inX10 w h)) hown hK hH.1 0 (mwc0 C A u159) rfl 18 (by decide) (hts _ (uc_in _ q_f1206)) (fun _ h9 => h9) rfl dX10_roundFrom_96 ?_
            refine lv_iconst (v := 5) hx hb dX10_roundFrom_99 (by decide) ?_
            refine lv_iload hx hb dX10_roundFrom_100 (lv_at hl 0 rfl) ?_
            refine lv_imul hx hb dX10_roundFrom_102 ?_
            refine p_nm (tt_mul (X := 5) (Y := y148d.toInt) (by decide) rfl (by omega) (by omega)) (fun z163 hz163 => ?_)
            refine va_iald hx hb hK hH.1 8 1 (mwc8 C A u159) rfl (i_ix hz163 (by omega) (by omega)) dX10_roundFrom_103 ?_
            refine p_any (fun z164 => ?_)
            refine lv_aload_n hx hb dX10_roundFrom_104 rfl (lv_at hl 1 rfl) ?_
            refine lv_iload_n hx hb dX10_roundFrom_105 rfl (lv_at hl 2 rfl) ?_
            refine lv_iload hx hb dX10_roundFrom_106 (lv_at hl 5 rfl) ?_
            refine lv_iload hx hb dX10_roundFrom_108 (lv_at hl 6 rfl) ?_
            refine lv_iload hx hb dX10_roundFrom_110 (lv_at hl 0 rfl) ?_
            refine cvS (n := 4) (As := [.int a0, .int a3, .int a4, .int y148d]) (rest := [.int z164, .int z162, .int 6, .int a0, .ref (A 0)]) ⟨hx, hb, hml, hown, hts⟩ uc_in (kX10_hears_0 l D C A u159 hI a0 A0 ha0 a3 A3 ha3 a4 A4 ha4 y148d y148d.toInt rfl (by omega) (by omega) (by omega) (by omega)) q_m1723 q_n1725 q_p98 q_i11 q_c1726 hvX10_hears ⟨(Nat.le_of_ble_eq_true rfl), (Nat.le_of_ble_eq_true rfl)⟩ ⟨(Nat.le_of_ble_eq_true rfl), (Nat.le_of_ble_eq_true rfl)⟩ hK hH.1 10 0 rfl (mwc0 C A u159) rfl hl.1 rfl (Nat.le_of_ble_eq_true rfl) dX10_roundFrom_112 (fun r165 p166 => ?_)
            have g167 : PCk z162 0 := by rw [ez162, ez161, ez160]; exact PC_step rfl (by omega) (by omega) f157 hpc
            have bg167 := PC_bd g167
            refine cvU (n := 5) (As := [.int a0, .int 6, .int z162, .int z164, .int r165]) (rest := []) ⟨hx, hb, hml, hown, hts⟩ uc_in (kX10_roundFrom_6 l D C A u159 hI a0 A0 ha0 z162 z162.toInt rfl z164 z164.toInt rfl r165 r165.toInt rfl (by omega) (by omega) (by omega) (by omega) g167 _) q_m1719 q_n1721 q_p97 q_i11 q_c1722 hvX10_roundFrom ⟨(Nat.le_of_ble_eq_true rfl), (Nat.le_of_ble_eq_true rfl)⟩ ⟨(Nat.le_of_ble_eq_true rfl), (Nat.le_of_ble_eq_true rfl)⟩ hK hH (fun q h => Or.inr h) Bl0 (fun _ _ _ => trivial) 10 0 rfl (mwc0 C A u159) rfl hl.1 rfl (Nat.le_of_ble_eq_true rfl) dX10_roundFrom_115 (fun u168 H locs p170 hH => ?_)
            obtain ⟨hI, hUu168, p170⟩ := p170
            obtain ⟨z171, ez171⟩ : ∃ z, z = y148d + Int32.ofInt 1 := ⟨_, rfl⟩
            have hz171 : z171.toInt = y148d.toInt + 1 := by rw [ez171]; exact tt_add rfl (by decide) (by omega) (by omega)
            refine lv_iinc (v := z171) (lv' := [(6, .int z171), (0, .ref (A 0)), (1, .int a0), (2, .int 5), (3, .int a2), (4, .int a3), (5, .int a4)]) hx hb dX10_roundFrom_118 hl (k := 0) rfl ez171.symm (by decide) rfl (fun ls hl => ?_)
            refine lv_goto (tgt := 53) hx hb dX10_roundFrom_121 (by decide) ?_
            exact ih53_149 ls z171 u168 _ _ (by have q9 := (show z171.toInt = (y148d.toInt + 1) from hz171); omega) (by have q9 := (show z171.toInt = (y148d.toInt + 1) from hz171); omega) (by have q9 := (show z171.toInt = (y148d.toInt + 1) from hz171); omega) (Un.tr (Un.sa hUu149 rfl eu159) hUu168 rfl rfl rfl) hI hH hl
          · subst e9
            refine lv_if_ne (tgt := 74) hx hb dX10_roundFrom_68 (by decide) (fun c172 => absurd c172 (by decide)) (fun c172 => ?_)
            refine lv_goto (tgt := 118) hx hb dX10_roundFrom_71 (by decide) ?_
            obtain ⟨z173, ez173⟩ : ∃ z, z = y148d + Int32.ofInt 1 := ⟨_, rfl⟩
            have hz173 : z173.toInt = y148d.toInt + 1 := by rw [ez173]; exact tt_add rfl (by decide) (by omega) (by omega)
            refine lv_iinc (v := z173) (lv' := [(6, .int z173), (0, .ref (A 0)), (1, .int a0), (2, .int 5), (3, .int a2), (4, .int a3), (5, .int a4)]) hx hb dX10_roundFrom_118 hl (k := 0) rfl ez173.symm (by decide) rfl (fun ls hl => ?_)
            refine lv_goto (tgt := 53) hx hb dX10_roundFrom_121 (by decide) ?_
            exact ih53_149 ls z173 u149 _ _ (by have q9 := (show z173.toInt = (y148d.toInt + 1) from hz173); omega) (by have q9 := (show z173.toInt = (y148d.toInt + 1) from hz173); omega) (by have q9 := (show z173.toInt = (y148d.toInt + 1) from hz173); omega) hUu149 hI hH hl
    exact lp53_149 7 ls 0 u _ _ (by decide) (by decide) (by have q9 : (0 : Int32).toInt = 0 := (by decide); omega) Un.rf hI hH hl
  · have c1 := cEQ (x := a2) (y := 0) (X := A2) (Y := 0) ha2 (by decide) c1
    refine lv_iload hx hb dX10_roundFrom_4 (lv_at hl 5 rfl) ?_
    refine lv_aload_n hx hb dX10_roundFrom_6 rfl (lv_at hl 0 rfl) ?_
    refine va_get (ci := 10) (v := .int (gi u 33)) (C := RX10) (T := TX10) (N := 42) hx hb hts (fun w h => uc_in w (inX10 w h)) hown hK hH.1 0 (mwc0 C A u) rfl 33 (by decide) (hts _ (uc_in _ q_f1221)) (fun _ h9 => h9) rfl dX10_roundFrom_7 ?_
    refine lv_icmp_lt (tgt := 14) hx hb dX10_roundFrom_10 (by decide) (fun c174 => ?_) (fun c174 => ?_)
    · have c174 := cLT (x := a4) (y := (gi u 33)) (X := A4) (Y := ((gi u 33)).toInt) ha4 rfl c174
      refine lv_aload_n hx hb dX10_roundFrom_14 rfl (lv_at hl 0 rfl) ?_
      refine lv_iload hx hb dX10_roundFrom_15 (lv_at hl 5 rfl) ?_
      refine r_put (j := 33) (ci := 10) (C := RX10) (T := TX10) (N := 42) hx hb hts (fun w h => uc_in w (inX10 w h)) tyX10 tyX10_ok nmX10 hown hK hH 0 (mwc0 C A u) rfl 33 (by decide) (hts _ (uc_in _ q_f1221)) (fun _ h9 => h9) rfl (by decide +kernel) (Nat.le_of_ble_eq_true rfl) (mws33 C A u _) dX10_roundFrom_17 (fun u175 eu175 H locs hH => ?_)
      have hI := hI.pi0 eu175 rfl
      refine lv_iconst (v := 0) hx hb dX10_roundFrom_20 (by decide) ?_
      refine lv_istore (lv' := [(6, .int 0), (0, .ref (A 0)), (1, .int a0), (2, .int 5), (3, .int a2), (4, .int a3), (5, .int a4)]) hx hb dX10_roundFrom_21 hl (by decide) rfl (fun ls hl => ?_)
      have lp23_206 : ∀ (n23 : Nat) (ls : Array Slot) (y205d : Int32) (u206 : St) (H : Heap) (locs : List Loc), 0 ≤ y205d.toInt → y205d.toInt ≤ 5 → 5 - y205d.toInt < (n23 : Int) → Un [] [(17, 17)] [] u175 u206 → IM u206 → Hd D (mw C A) (va_A (mw C A u) s.heap.size) s.heap u206 H locs → lv_has ls 7 [(6, .int y205d), (0, .ref (A 0)), (2, .int 5)] → W p l e (rmL 3 0 0) s m ar below meth c H locs 0 0 Q (F0 m 23 ls []) := by
        intro n23
        induction n23 with
        | zero => intro ls y205d u206 H locs ly205d my205d hmun23 hUu206 hI hH hl; exfalso; omega
        | succ n23 ih23_206 =>
          intro ls y205d u206 H locs ly205d my205d hmun23 hUu206 hI hH hl
          refine lv_iload hx hb dX10_roundFrom_23 (lv_at hl 0 rfl) ?_
          refine lv_iload_n hx hb dX10_roundFrom_25 rfl (lv_at hl 2 rfl) ?_
          refine lv_icmp_ge (tgt := 49) hx hb dX10_roundFrom_26 (by decide) (fun c208 => ?_) (fun c208 => ?_)
          · have c208 := cLE (x := 5) (y := y205d) (X := 5) (Y := y205d.toInt) (by decide) rfl c208
            exact hret _ _ _ _ _ dX10_roundFrom_49 ⟨hI, (Un.tr (Un.si Un.rf rfl eu175) hUu206 rfl rfl rfl), trivial⟩ hH
          · have c208 := cNLE (x := 5) (y := y205d) (X := 5) (Y := y205d.toInt) (by decide) rfl c208
            refine lv_aload_n hx hb dX10_roundFrom_29 rfl (lv_at hl 1 rfl) ?_
            refine va_get (ci := 10) (v := .ref (A 17)) (C := RX10) (T := TX10) (N := 42) hx hb hts (fun w h => uc_in w (inX10 w h)) hown hK hH.1 0 (mwc0 C A u206) rfl 32 (by decide) (hts _ (uc_in _ q_f1220)) (fun _ h9 => h9) rfl dX10_roundFrom_30 ?_
            refine lv_iload hx hb dX10_roundFrom_33 (lv_at hl 0 rfl) ?_
            refine lv_aload_n hx hb dX10_roundFrom_35 rfl (lv_at hl 1 rfl) ?_
            refine va_get (ci := 10) (v := .ref (A 16)) (C := RX10) (T := TX10) (N := 42) hx hb hts (fun w h => uc_in w (inX10 w h)) hown hK hH.1 0 (mwc0 C A u206) rfl 31 (by decide) (hts _ (uc_in _ q_f1219)) (fun _ h9 => h9) rfl dX10_roundFrom_36 ?_
            refine lv_iload hx hb dX10_roundFrom_39 (lv_at hl 0 rfl) ?_
            refine va_iald hx hb hK hH.1 16 1 (mwc16 C A u206) rfl (i_ix rfl (by omega) (by omega)) dX10_roundFrom_41 ?_
            refine p_any (fun z209 => ?_)
            refine r_iast (j := 17) hx hb hK hH 17 1 (mwc17 C A u206) rfl (i_ix rfl (by omega) (by omega)) (mwa17 C A u206) dX10_roundFrom_42 (fun u210 eu210 H locs hH => ?_)
            have hI := hI.pa0 eu210 (by decide) (by decide) (by decide)
            obtain ⟨z211, ez211⟩ : ∃ z, z = y205d + Int32.ofInt 1 := ⟨_, rfl⟩
            have hz211 : z211.toInt = y205d.toInt + 1 := by rw [ez211]; exact tt_add rfl (by decide) (by omega) (by omega)
            refine lv_iinc (v := z211) (lv' := [(6, .int z211), (0, .ref (A 0)), (2, .int 5)]) hx hb dX10_roundFrom_43 hl (k := 0) rfl ez211.symm (by decide) rfl (fun ls hl => ?_)
            refine lv_goto (tgt := 23) hx hb dX10_roundFrom_46 (by decide) ?_
            exact ih23_206 ls z211 u210 _ _ (by have q9 := (show z211.toInt = (y205d.toInt + 1) from hz211); omega) (by have q9 := (show z211.toInt = (y205d.toInt + 1) from hz211); omega) (by have q9 := (show z211.toInt = (y205d.toInt + 1) from hz211); omega) (Un.sa hUu206 rfl eu210) hI hH hl
      exact lp23_206 6 ls 0 u175 _ _ (by decide) (by decide) (by have q9 : (0 : Int32).toInt = 0 := (by decide); omega) Un.rf hI hH (lv_sub hl [0, 1, 3] rfl)
    · have c174 := cNLT (x := a4) (y := (gi u 33)) (X := A4) (Y := ((gi u 33)).toInt) ha4 rfl c174
      exact hret _ _ _ _ _ dX10_roundFrom_13 ⟨hI, Un.rf, trivial⟩ hH
set_option maxHeartbeats 4000000 in
set_option maxRecDepth 100000 in
theorem kX10_roundFrom_4 (l : Launch) (D : va_G) (C : Nat → ClassId) (A : Nat → Nat) (u : St) (hI : IM u) (a0 : Int32) (A0 : Int) (ha0 : a0.toInt = A0) (a2 : Int32) (A2 : Int) (ha2 : a2.toInt = A2) (a3 : Int32) (A3 : Int) (ha3 : a3.toInt = A3) (a4 : Int32) (A4 : Int) (ha4 : a4.toInt = A4) (hl0 : 0 ≤ A0) (hm0 : A0 ≤ 6) (hl2 : 0 ≤ A2) (hm2 : A2 ≤ 63) (hpc : PCk a2 2) (sz : Nat) : MetV l yX10_roundFrom cX10_roundFrom 7 4 [.ref (A 0), .int a0, .int 4, .int a2, .int a3, .int a4] D (tyl C) (mw C A) X0 u sz (fun u' => IM u' ∧ Un [(33, 33)] [(16, 16), (17, 17)] [] u u' ∧ True) := by
  refine mV (by decide) (Nat.le_of_ble_eq_true rfl) ?_
  intro p e s m below meth c ls ar Q hx hb hml hown hts hK hH hX hl hret
  have hown : s.vm.findClass RX10 = some m.cls := hown
  have hl : lv_has ls 7 [(0, .ref (A 0)), (1, .int a0), (2, .int 4), (3, .int a2), (4, .int a3), (5, .int a4)] := hl
  refine lv_iload_n hx hb dX10_roundFrom_0 rfl (lv_at hl 3 rfl) ?_
  refine lv_if_ne (tgt := 50) hx hb dX10_roundFrom_1 (by decide) (fun c1 => ?_) (fun c1 => ?_)
  · have c1 := cNE (x := a2) (y := 0) (X := A2) (Y := 0) ha2 (by decide) c1
    refine lv_iconst (v := 0) hx hb dX10_roundFrom_50 (by decide) ?_
    refine lv_istore (lv' := [(6, .int 0), (0, .ref (A 0)), (1, .int a0), (2, .int 4), (3, .int a2), (4, .int a3), (5, .int a4)]) hx hb dX10_roundFrom_51 hl (by decide) rfl (fun ls hl => ?_)
    have lp53_149 : ∀ (n53 : Nat) (ls : Array Slot) (y148d : Int32) (u149 : St) (H : Heap) (locs : List Loc), 0 ≤ y148d.toInt → y148d.toInt ≤ 6 → 6 - y148d.toInt < (n53 : Int) → Un [(33, 33)] [(16, 16), (17, 17)] [] u u149 → IM u149 → Hd D (mw C A) (va_A (mw C A u) s.heap.size) s.heap u149 H locs → lv_has ls 7 [(6, .int y148d), (0, .ref (A 0)), (1, .int a0), (2, .int 4), (3, .int a2), (4, .int a3), (5, .int a4)] → W p l e (rmL 4 0 0) s m ar below meth c H locs 0 0 Q (F0 m 53 ls []) := by
      intro n53
      induction n53 with
      | zero => intro ls y148d u149 H locs ly148d my148d hmun53 hUu149 hI hH hl; exfalso; omega
      | succ n53 ih53_149 =>
        intro ls y148d u149 H locs ly148d my148d hmun53 hUu149 hI hH hl
        refine lv_iload hx hb dX10_roundFrom_53 (lv_at hl 0 rfl) ?_
        refine lv_aload_n hx hb dX10_roundFrom_55 rfl (lv_at hl 1 rfl) ?_
        refine cvS (n := 0) (As := []) (rest := [.int y148d]) ⟨hx, hb, hml, hown, hts⟩ uc_in (kX10_clocks_0 l D C A u149 hI ) q_m1464 q_n1466 q_p72 q_i11 q_c1467 hvX10_clocks ⟨(Nat.le_of_ble_eq_true rfl), (Nat.le_of_ble_eq_true rfl)⟩ ⟨(Nat.le_of_ble_eq_true rfl), (Nat.le_of_ble_eq_true rfl)⟩ hK hH.1 10 0 rfl (mwc0 C A u149) rfl hl.1 rfl (Nat.le_of_ble_eq_true rfl) dX10_roundFrom_56 (fun r151 p152 => ?_)
        subst p152
        have b153 : 0 ≤ ((ga u149 7 3)).toInt ∧ ((ga u149 7 3)).toInt ≤ 6 := hI.has 3
        refine lv_icmp_ge (tgt := 124) hx hb dX10_roundFrom_59 (by decide) (fun c154 => ?_) (fun c154 => ?_)
        · have c154 := cLE (x := (ga u149 7 3)) (y := y148d) (X := ((ga u149 7 3)).toInt) (Y := y148d.toInt) rfl rfl c154
          exact hret _ _ _ _ _ dX10_roundFrom_124 ⟨hI, (Un.tr Un.rf hUu149 rfl rfl rfl), trivial⟩ hH
        · have c154 := cNLE (x := (ga u149 7 3)) (y := y148d) (X := ((ga u149 7 3)).toInt) (Y := y148d.toInt) rfl rfl c154
          refine lv_iload_n hx hb dX10_roundFrom_62 rfl (lv_at hl 4 rfl) ?_
          refine lv_iload hx hb dX10_roundFrom_63 (lv_at hl 0 rfl) ?_
          refine csS (n := 2) (As := [.int a2, .int y148d]) (rest := []) ⟨hx, hb, hml, hown, hts⟩ uc_in (kX10_isBit_0 l D C A u149 hI a2 A2 ha2 y148d y148d.toInt rfl) q_m1489 q_s1490 q_i11 q_c1491 hvX10_isBit ⟨(Nat.le_of_ble_eq_true rfl), (Nat.le_of_ble_eq_true rfl)⟩ ⟨(Nat.le_of_ble_eq_true rfl), (Nat.le_of_ble_eq_true rfl)⟩ hK hH.1 rfl hl.1 rfl (Nat.le_of_ble_eq_true rfl) dX10_roundFrom_65 (fun r155 p156 => ?_)
          rcases p156 with ⟨e9, f157⟩ | ⟨e9, -⟩
          · subst e9
            refine lv_if_ne (tgt := 74) hx hb dX10_roundFrom_68 (by decide) (fun c158 => ?_) (fun c158 => absurd c158 (by decide))
            refine lv_aload_n hx hb dX10_roundFrom_74 rfl (lv_at hl 1 rfl) ?_
            refine va_get (ci := 10) (v := .ref (A 16)) (C := RX10) (T := TX10) (N := 42) hx hb hts (fun w h => uc_in w (inX10 w h)) hown hK hH.1 0 (mwc0 C A u149) rfl 31 (by decide) (hts _ (uc_in _ q_f1219)) (fun _ h9 => h9) rfl dX10_roundFrom_75 ?_
            refine lv_iload_n hx hb dX10_roundFrom_78 rfl (lv_at hl 3 rfl) ?_
            refine lv_iload hx hb dX10_roundFrom_79 (lv_at hl 0 rfl) ?_
            refine r_iast (j := 16) hx hb hK hH 16 1 (mwc16 C A u149) rfl (i_ix (X := 4) (by decide) (by decide) (by decide)) (mwa16 C A u149) dX10_roundFrom_81 (fun u159 eu159 H locs hH => ?_)
            have hI := hI.pa0 eu159 (by decide) (by decide) (by decide)
            refine lv_aload_n hx hb dX10_roundFrom_82 rfl (lv_at hl 1 rfl) ?_
            refine lv_iload_n hx hb dX10_roundFrom_83 rfl (lv_at hl 2 rfl) ?_
            refine lv_iload_n hx hb dX10_roundFrom_84 rfl (lv_at hl 3 rfl) ?_
            refine lv_iconst (v := 1) hx hb dX10_roundFrom_85 (by decide) ?_
            refine lv_iadd hx hb dX10_roundFrom_86 ?_
            refine pv_i (v := 5) (by decide) ?_
            refine lv_iload_n hx hb dX10_roundFrom_87 rfl (lv_at hl 4 rfl) ?_
            refine lv_iconst (v := 1) hx hb dX10_roundFrom_88 (by decide) ?_
            refine lv_iload hx hb dX10_roundFrom_89 (lv_at hl 0 rfl) ?_
            refine lv_ishl hx hb dX10_roundFrom_91 ?_
            refine lv_topi (fun z160 ez160 => ?_)
            refine lv_iconst (v := (-1)) hx hb dX10_roundFrom_92 (by decide) ?_
            refine lv_ixor hx hb dX10_roundFrom_93 ?_
            refine lv_topi (fun z161 ez161 => ?_)
            refine lv_iand hx hb dX10_roundFrom_94 ?_
            refine lv_topi (fun z162 ez162 => ?_)
            refine lv_aload_n hx hb dX10_roundFrom_95 rfl (lv_at hl 1 rfl) ?_
            refine va_get (ci := 10) (v := .ref (A 8)) (C := RX10) (T := TX10) (N := 42) hx hb hts (fun w h => uc_in w (inX10 w h)) hown hK hH.1 0 (mwc0 C A u159) rfl 18 (by decide) (hts _ (uc_in _ q_f1206)) (fun _ h9 => h9) rfl dX10_roundFrom_96 ?_
            refine lv_iconst (v := 5) hx hb dX10_roundFrom_99 (by decide) ?_
            refine lv_iload hx hb dX10_roundFrom_100 (lv_at hl 0 rfl) ?_
            refine lv_imul hx hb dX10_roundFrom_102 ?_
            refine p_nm (tt_mul (X := 5) (Y := y148d.toInt) (by decide) rfl (by omega) (by omega)) (fun z163 hz163 => ?_)
            refine va_iald hx hb hK hH.1 8 1 (mwc8 C A u159) rfl (i_ix hz163 (by omega) (by omega)) dX10_roundFrom_103 ?_
            refine p_any (fun z164 => ?_)
            refine lv_aload_n hx hb dX10_roundFrom_104 rfl (lv_at hl 1 rfl) ?_
            refine lv_iload_n hx hb dX10_roundFrom_105 rfl (lv_at hl 2 rfl) ?_
            refine lv_iload hx hb dX10_roundFrom_106 (lv_at hl 5 rfl) ?_
            refine lv_iload hx hb dX10_roundFrom_108 (lv_at hl 6 rfl) ?_
            refine lv_iload hx hb dX10_roundFrom_110 (lv_at hl 0 rfl) ?_
            refine cvS (n := 4) (As := [.int a0, .int a3, .int a4, .int y148d]) (rest := [.int z164, .int z162, .int 5, .int a0, .ref (A 0)]) ⟨hx, hb, hml, hown, hts⟩ uc_in (kX10_hears_0 l D C A u159 hI a0 A0 ha0 a3 A3 ha3 a4 A4 ha4 y148d y148d.toInt rfl (by omega) (by omega) (by omega) (by omega)) q_m1723 q_n1725 q_p98 q_i11 q_c1726 hvX10_hears ⟨(Nat.le_of_ble_eq_true rfl), (Nat.le_of_ble_eq_true rfl)⟩ ⟨(Nat.le_of_ble_eq_true rfl), (Nat.le_of_ble_eq_true rfl)⟩ hK hH.1 10 0 rfl (mwc0 C A u159) rfl hl.1 rfl (Nat.le_of_ble_eq_true rfl) dX10_roundFrom_112 (fun r165 p166 => ?_)
            have g167 : PCk z162 1 := by rw [ez162, ez161, ez160]; exact PC_step rfl (by omega) (by omega) f157 hpc
            have bg167 := PC_bd g167
            refine cvU (n := 5) (As := [.int a0, .int 5, .int z162, .int z164, .int r165]) (rest := []) ⟨hx, hb, hml, hown, hts⟩ uc_in (kX10_roundFrom_5 l D C A u159 hI a0 A0 ha0 z162 z162.toInt rfl z164 z164.toInt rfl r165 r165.toInt rfl (by omega) (by omega) (by omega) (by omega) g167 _) q_m1719 q_n1721 q_p97 q_i11 q_c1722 hvX10_roundFrom ⟨(Nat.le_of_ble_eq_true rfl), (Nat.le_of_ble_eq_true rfl)⟩ ⟨(Nat.le_of_ble_eq_true rfl), (Nat.le_of_ble_eq_true rfl)⟩ hK hH (fun q h => Or.inr h) Bl0 (fun _ _ _ => trivial) 10 0 rfl (mwc0 C A u159) rfl hl.1 rfl (Nat.le_of_ble_eq_true rfl) dX10_roundFrom_115 (fun u168 H locs p170 hH => ?_)
            obtain ⟨hI, hUu168, p170⟩ := p170
            obtain ⟨z171, ez171⟩ : ∃ z, z = y148d + Int32.ofInt 1 := ⟨_, rfl⟩
            have hz171 : z171.toInt = y148d.toInt + 1 := by rw [ez171]; exact tt_add rfl (by decide) (by omega) (by omega)
            refine lv_iinc (v := z171) (lv' := [(6, .int z171), (0, .ref (A 0)), (1, .int a0), (2, .int 4), (3, .int a2), (4, .int a3), (5, .int a4)]) hx hb dX10_roundFrom_118 hl (k := 0) rfl ez171.symm (by decide) rfl (fun ls hl => ?_)
            refine lv_goto (tgt := 53) hx hb dX10_roundFrom_121 (by decide) ?_
            exact ih53_149 ls z171 u168 _ _ (by have q9 := (show z171.toInt = (y148d.toInt + 1) from hz171); omega) (by have q9 := (show z171.toInt = (y148d.toInt + 1) from hz171); omega) (by have q9 := (show z171.toInt = (y148d.toInt + 1) from hz171); omega) (Un.tr (Un.sa hUu149 rfl eu159) hUu168 rfl rfl rfl) hI hH hl
          · subst e9
            refine lv_if_ne (tgt := 74) hx hb dX10_roundFrom_68 (by decide) (fun c172 => absurd c172 (by decide)) (fun c172 => ?_)
            refine lv_goto (tgt := 118) hx hb dX10_roundFrom_71 (by decide) ?_
            obtain ⟨z173, ez173⟩ : ∃ z, z = y148d + Int32.ofInt 1 := ⟨_, rfl⟩
            have hz173 : z173.toInt = y148d.toInt + 1 := by rw [ez173]; exact tt_add rfl (by decide) (by omega) (by omega)
            refine lv_iinc (v := z173) (lv' := [(6, .int z173), (0, .ref (A 0)), (1, .int a0), (2, .int 4), (3, .int a2), (4, .int a3), (5, .int a4)]) hx hb dX10_roundFrom_118 hl (k := 0) rfl ez173.symm (by decide) rfl (fun ls hl => ?_)
            refine lv_goto (tgt := 53) hx hb dX10_roundFrom_121 (by decide) ?_
            exact ih53_149 ls z173 u149 _ _ (by have q9 := (show z173.toInt = (y148d.toInt + 1) from hz173); omega) (by have q9 := (show z173.toInt = (y148d.toInt + 1) from hz173); omega) (by have q9 := (show z173.toInt = (y148d.toInt + 1) from hz173); omega) hUu149 hI hH hl
    exact lp53_149 7 ls 0 u _ _ (by decide) (by decide) (by have q9 : (0 : Int32).toInt = 0 := (by decide); omega) Un.rf hI hH hl
  · have c1 := cEQ (x := a2) (y := 0) (X := A2) (Y := 0) ha2 (by decide) c1
    refine lv_iload hx hb dX10_roundFrom_4 (lv_at hl 5 rfl) ?_
    refine lv_aload_n hx hb dX10_roundFrom_6 rfl (lv_at hl 0 rfl) ?_
    refine va_get (ci := 10) (v := .int (gi u 33)) (C := RX10) (T := TX10) (N := 42) hx hb hts (fun w h => uc_in w (inX10 w h)) hown hK hH.1 0 (mwc0 C A u) rfl 33 (by decide) (hts _ (uc_in _ q_f1221)) (fun _ h9 => h9) rfl dX10_roundFrom_7 ?_
    refine lv_icmp_lt (tgt := 14) hx hb dX10_roundFrom_10 (by decide) (fun c174 => ?_) (fun c174 => ?_)
    · have c174 := cLT (x := a4) (y := (gi u 33)) (X := A4) (Y := ((gi u 33)).toInt) ha4 rfl c174
      refine lv_aload_n hx hb dX10_roundFrom_14 rfl (lv_at hl 0 rfl) ?_
      refine lv_iload hx hb dX10_roundFrom_15 (lv_at hl 5 rfl) ?_
      refine r_put (j := 33) (ci := 10) (C := RX10) (T := TX10) (N := 42) hx hb hts (fun w h => uc_in w (inX10 w h)) tyX10 tyX10_ok nmX10 hown hK hH 0 (mwc0 C A u) rfl 33 (by decide) (hts _ (uc_in _ q_f1221)) (fun _ h9 => h9) rfl (by decide +kernel) (Nat.le_of_ble_eq_true rfl) (mws33 C A u _) dX10_roundFrom_17 (fun u175 eu175 H locs hH => ?_)
      have hI := hI.pi0 eu175 rfl
      refine lv_iconst (v := 0) hx hb dX10_roundFrom_20 (by decide) ?_
      refine lv_istore (lv' := [(6, .int 0), (0, .ref (A 0)), (1, .int a0), (2, .int 4), (3, .int a2), (4, .int a3), (5, .int a4)]) hx hb dX10_roundFrom_21 hl (by decide) rfl (fun ls hl => ?_)
      have lp23_213 : ∀ (n23 : Nat) (ls : Array Slot) (y212d : Int32) (u213 : St) (H : Heap) (locs : List Loc), 0 ≤ y212d.toInt → y212d.toInt ≤ 4 → 4 - y212d.toInt < (n23 : Int) → Un [] [(17, 17)] [] u175 u213 → IM u213 → Hd D (mw C A) (va_A (mw C A u) s.heap.size) s.heap u213 H locs → lv_has ls 7 [(6, .int y212d), (0, .ref (A 0)), (2, .int 4)] → W p l e (rmL 4 0 0) s m ar below meth c H locs 0 0 Q (F0 m 23 ls []) := by
        intro n23
        induction n23 with
        | zero => intro ls y212d u213 H locs ly212d my212d hmun23 hUu213 hI hH hl; exfalso; omega
        | succ n23 ih23_213 =>
          intro ls y212d u213 H locs ly212d my212d hmun23 hUu213 hI hH hl
          refine lv_iload hx hb dX10_roundFrom_23 (lv_at hl 0 rfl) ?_
          refine lv_iload_n hx hb dX10_roundFrom_25 rfl (lv_at hl 2 rfl) ?_
          refine lv_icmp_ge (tgt := 49) hx hb dX10_roundFrom_26 (by decide) (fun c215 => ?_) (fun c215 => ?_)
          · have c215 := cLE (x := 4) (y := y212d) (X := 4) (Y := y212d.toInt) (by decide) rfl c215
            exact hret _ _ _ _ _ dX10_roundFrom_49 ⟨hI, (Un.tr (Un.si Un.rf rfl eu175) hUu213 rfl rfl rfl), trivial⟩ hH
          · have c215 := cNLE (x := 4) (y := y212d) (X := 4) (Y := y212d.toInt) (by decide) rfl c215
            refine lv_aload_n hx hb dX10_roundFrom_29 rfl (lv_at hl 1 rfl) ?_
            refine va_get (ci := 10) (v := .ref (A 17)) (C := RX10) (T := TX10) (N := 42) hx hb hts (fun w h => uc_in w (inX10 w h)) hown hK hH.1 0 (mwc0 C A u213) rfl 32 (by decide) (hts _ (uc_in _ q_f1220)) (fun _ h9 => h9) rfl dX10_roundFrom_30 ?_
            refine lv_iload hx hb dX10_roundFrom_33 (lv_at hl 0 rfl) ?_
            refine lv_aload_n hx hb dX10_roundFrom_35 rfl (lv_at hl 1 rfl) ?_
            refine va_get (ci := 10) (v := .ref (A 16)) (C := RX10) (T := TX10) (N := 42) hx hb hts (fun w h => uc_in w (inX10 w h)) hown hK hH.1 0 (mwc0 C A u213) rfl 31 (by decide) (hts _ (uc_in _ q_f1219)) (fun _ h9 => h9) rfl dX10_roundFrom_36 ?_
            refine lv_iload hx hb dX10_roundFrom_39 (lv_at hl 0 rfl) ?_
            refine va_iald hx hb hK hH.1 16 1 (mwc16 C A u213) rfl (i_ix rfl (by omega) (by omega)) dX10_roundFrom_41 ?_
            refine p_any (fun z216 => ?_)
            refine r_iast (j := 17) hx hb hK hH 17 1 (mwc17 C A u213) rfl (i_ix rfl (by omega) (by omega)) (mwa17 C A u213) dX10_roundFrom_42 (fun u217 eu217 H locs hH => ?_)
            have hI := hI.pa0 eu217 (by decide) (by decide) (by decide)
            obtain ⟨z218, ez218⟩ : ∃ z, z = y212d + Int32.ofInt 1 := ⟨_, rfl⟩
            have hz218 : z218.toInt = y212d.toInt + 1 := by rw [ez218]; exact tt_add rfl (by decide) (by omega) (by omega)
            refine lv_iinc (v := z218) (lv' := [(6, .int z218), (0, .ref (A 0)), (2, .int 4)]) hx hb dX10_roundFrom_43 hl (k := 0) rfl ez218.symm (by decide) rfl (fun ls hl => ?_)
            refine lv_goto (tgt := 23) hx hb dX10_roundFrom_46 (by decide) ?_
            exact ih23_213 ls z218 u217 _ _ (by have q9 := (show z218.toInt = (y212d.toInt + 1) from hz218); omega) (by have q9 := (show z218.toInt = (y212d.toInt + 1) from hz218); omega) (by have q9 := (show z218.toInt = (y212d.toInt + 1) from hz218); omega) (Un.sa hUu213 rfl eu217) hI hH hl
      exact lp23_213 5 ls 0 u175 _ _ (by decide) (by decide) (by have q9 : (0 : Int32).toInt = 0 := (by decide); omega) Un.rf hI hH (lv_sub hl [0, 1, 3] rfl)
    · have c174 := cNLT (x := a4) (y := (gi u 33)) (X := A4) (Y := ((gi u 33)).toInt) ha4 rfl c174
      exact hret _ _ _ _ _ dX10_roundFrom_13 ⟨hI, Un.rf, trivial⟩ hH
set_option maxHeartbeats 4000000 in
set_option maxRecDepth 100000 in
theorem kX10_roundFrom_3 (l : Launch) (D : va_G) (C : Nat → ClassId) (A : Nat → Nat) (u : St) (hI : IM u) (a0 : Int32) (A0 : Int) (ha0 : a0.toInt = A0) (a2 : Int32) (A2 : Int) (ha2 : a2.toInt = A2) (a3 : Int32) (A3 : Int) (ha3 : a3.toInt = A3) (a4 : Int32) (A4 : Int) (ha4 : a4.toInt = A4) (hl0 : 0 ≤ A0) (hm0 : A0 ≤ 6) (hl2 : 0 ≤ A2) (hm2 : A2 ≤ 63) (hpc : PCk a2 3) (sz : Nat) : MetV l yX10_roundFrom cX10_roundFrom 7 5 [.ref (A 0), .int a0, .int 3, .int a2, .int a3, .int a4] D (tyl C) (mw C A) X0 u sz (fun u' => IM u' ∧ Un [(33, 33)] [(16, 16), (17, 17)] [] u u' ∧ True) := by
  refine mV (by decide) (Nat.le_of_ble_eq_true rfl) ?_
  intro p e s m below meth c ls ar Q hx hb hml hown hts hK hH hX hl hret
  have hown : s.vm.findClass RX10 = some m.cls := hown
  have hl : lv_has ls 7 [(0, .ref (A 0)), (1, .int a0), (2, .int 3), (3, .int a2), (4, .int a3), (5, .int a4)] := hl
  refine lv_iload_n hx hb dX10_roundFrom_0 rfl (lv_at hl 3 rfl) ?_
  refine lv_if_ne (tgt := 50) hx hb dX10_roundFrom_1 (by decide) (fun c1 => ?_) (fun c1 => ?_)
  · have c1 := cNE (x := a2) (y := 0) (X := A2) (Y := 0) ha2 (by decide) c1
    refine lv_iconst (v := 0) hx hb dX10_roundFrom_50 (by decide) ?_
    refine lv_istore (lv' := [(6, .int 0), (0, .ref (A 0)), (1, .int a0), (2, .int 3), (3, .int a2), (4, .int a3), (5, .int a4)]) hx hb dX10_roundFrom_51 hl (by decide) rfl (fun ls hl => ?_)
    have lp53_149 : ∀ (n53 : Nat) (ls : Array Slot) (y148d : Int32) (u149 : St) (H : Heap) (locs : List Loc), 0 ≤ y148d.toInt → y148d.toInt ≤ 6 → 6 - y148d.toInt < (n53 : Int) → Un [(33, 33)] [(16, 16), (17, 17)] [] u u149 → IM u149 → Hd D (mw C A) (va_A (mw C A u) s.heap.size) s.heap u149 H locs → lv_has ls 7 [(6, .int y148d), (0, .ref (A 0)), (1, .int a0), (2, .int 3), (3, .int a2), (4, .int a3), (5, .int a4)] → W p l e (rmL 5 0 0) s m ar below meth c H locs 0 0 Q (F0 m 53 ls []) := by
      intro n53
      induction n53 with
      | zero => intro ls y148d u149 H locs ly148d my148d hmun53 hUu149 hI hH hl; exfalso; omega
      | succ n53 ih53_149 =>
        intro ls y148d u149 H locs ly148d my148d hmun53 hUu149 hI hH hl
        refine lv_iload hx hb dX10_roundFrom_53 (lv_at hl 0 rfl) ?_
        refine lv_aload_n hx hb dX10_roundFrom_55 rfl (lv_at hl 1 rfl) ?_
        refine cvS (n := 0) (As := []) (rest := [.int y148d]) ⟨hx, hb, hml, hown, hts⟩ uc_in (kX10_clocks_0 l D C A u149 hI ) q_m1464 q_n1466 q_p72 q_i11 q_c1467 hvX10_clocks ⟨(Nat.le_of_ble_eq_true rfl), (Nat.le_of_ble_eq_true rfl)⟩ ⟨(Nat.le_of_ble_eq_true rfl), (Nat.le_of_ble_eq_true rfl)⟩ hK hH.1 10 0 rfl (mwc0 C A u149) rfl hl.1 rfl (Nat.le_of_ble_eq_true rfl) dX10_roundFrom_56 (fun r151 p152 => ?_)
        subst p152
        have b153 : 0 ≤ ((ga u149 7 3)).toInt ∧ ((ga u149 7 3)).toInt ≤ 6 := hI.has 3
        refine lv_icmp_ge (tgt := 124) hx hb dX10_roundFrom_59 (by decide) (fun c154 => ?_) (fun c154 => ?_)
        · have c154 := cLE (x := (ga u149 7 3)) (y := y148d) (X := ((ga u149 7 3)).toInt) (Y := y148d.toInt) rfl rfl c154
          exact hret _ _ _ _ _ dX10_roundFrom_124 ⟨hI, (Un.tr Un.rf hUu149 rfl rfl rfl), trivial⟩ hH
        · have c154 := cNLE (x := (ga u149 7 3)) (y := y148d) (X := ((ga u149 7 3)).toInt) (Y := y148d.toInt) rfl rfl c154
          refine lv_iload_n hx hb dX10_roundFrom_62 rfl (lv_at hl 4 rfl) ?_
          refine lv_iload hx hb dX10_roundFrom_63 (lv_at hl 0 rfl) ?_
          refine csS (n := 2) (As := [.int a2, .int y148d]) (rest := []) ⟨hx, hb, hml, hown, hts⟩ uc_in (kX10_isBit_0 l D C A u149 hI a2 A2 ha2 y148d y148d.toInt rfl) q_m1489 q_s1490 q_i11 q_c1491 hvX10_isBit ⟨(Nat.le_of_ble_eq_true rfl), (Nat.le_of_ble_eq_true rfl)⟩ ⟨(Nat.le_of_ble_eq_true rfl), (Nat.le_of_ble_eq_true rfl)⟩ hK hH.1 rfl hl.1 rfl (Nat.le_of_ble_eq_true rfl) dX10_roundFrom_65 (fun r155 p156 => ?_)
          rcases p156 with ⟨e9, f157⟩ | ⟨e9, -⟩
          · subst e9
            refine lv_if_ne (tgt := 74) hx hb dX10_roundFrom_68 (by decide) (fun c158 => ?_) (fun c158 => absurd c158 (by decide))
            refine lv_aload_n hx hb dX10_roundFrom_74 rfl (lv_at hl 1 rfl) ?_
            refine va_get (ci := 10) (v := .ref (A 16)) (C := RX10) (T := TX10) (N := 42) hx hb hts (fun w h => uc_in w (inX10 w h)) hown hK hH.1 0 (mwc0 C A u149) rfl 31 (by decide) (hts _ (uc_in _ q_f1219)) (fun _ h9 => h9) rfl dX10_roundFrom_75 ?_
            refine lv_iload_n hx hb dX10_roundFrom_78 rfl (lv_at hl 3 rfl) ?_
            refine lv_iload hx hb dX10_roundFrom_79 (lv_at hl 0 rfl) ?_
            refine r_iast (j := 16) hx hb hK hH 16 1 (mwc16 C A u149) rfl (i_ix (X := 3) (by decide) (by decide) (by decide)) (mwa16 C A u149) dX10_roundFrom_81 (fun u159 eu159 H locs hH => ?_)
            have hI := hI.pa0 eu159 (by decide) (by decide) (by decide)
            refine lv_aload_n hx hb dX10_roundFrom_82 rfl (lv_at hl 1 rfl) ?_
            refine lv_iload_n hx hb dX10_roundFrom_83 rfl (lv_at hl 2 rfl) ?_
            refine lv_iload_n hx hb dX10_roundFrom_84 rfl (lv_at hl 3 rfl) ?_
            refine lv_iconst (v := 1) hx hb dX10_roundFrom_85 (by decide) ?_
            refine lv_iadd hx hb dX10_roundFrom_86 ?_
            refine pv_i (v := 4) (by decide) ?_
            refine lv_iload_n hx hb dX10_roundFrom_87 rfl (lv_at hl 4 rfl) ?_
            refine lv_iconst (v := 1) hx hb dX10_roundFrom_88 (by decide) ?_
            refine lv_iload hx hb dX10_roundFrom_89 (lv_at hl 0 rfl) ?_
            refine lv_ishl hx hb dX10_roundFrom_91 ?_
            refine lv_topi (fun z160 ez160 => ?_)
            refine lv_iconst (v := (-1)) hx hb dX10_roundFrom_92 (by decide) ?_
            refine lv_ixor hx hb dX10_roundFrom_93 ?_
            refine lv_topi (fun z161 ez161 => ?_)
            refine lv_iand hx hb dX10_roundFrom_94 ?_
            refine lv_topi (fun z162 ez162 => ?_)
            refine lv_aload_n hx hb dX10_roundFrom_95 rfl (lv_at hl 1 rfl) ?_
            refine va_get (ci := 10) (v := .ref (A 8)) (C := RX10) (T := TX10) (N := 42) hx hb hts (fun w h => uc_in w (inX10 w h)) hown hK hH.1 0 (mwc0 C A u159) rfl 18 (by decide) (hts _ (uc_in _ q_f1206)) (fun _ h9 => h9) rfl dX10_roundFrom_96 ?_
            refine lv_iconst (v := 5) hx hb dX10_roundFrom_99 (by decide) ?_
            refine lv_iload hx hb dX10_roundFrom_100 (lv_at hl 0 rfl) ?_
            refine lv_imul hx hb dX10_roundFrom_102 ?_
            refine p_nm (tt_mul (X := 5) (Y := y148d.toInt) (by decide) rfl (by omega) (by omega)) (fun z163 hz163 => ?_)
            refine va_iald hx hb hK hH.1 8 1 (mwc8 C A u159) rfl (i_ix hz163 (by omega) (by omega)) dX10_roundFrom_103 ?_
            refine p_any (fun z164 => ?_)
            refine lv_aload_n hx hb dX10_roundFrom_104 rfl (lv_at hl 1 rfl) ?_
            refine lv_iload_n hx hb dX10_roundFrom_105 rfl (lv_at hl 2 rfl) ?_
            refine lv_iload hx hb dX10_roundFrom_106 (lv_at hl 5 rfl) ?_
            refine lv_iload hx hb dX10_roundFrom_108 (lv_at hl 6 rfl) ?_
            refine lv_iload hx hb dX10_roundFrom_110 (lv_at hl 0 rfl) ?_
            refine cvS (n := 4) (As := [.int a0, .int a3, .int a4, .int y148d]) (rest := [.int z164, .int z162, .int 4, .int a0, .ref (A 0)]) ⟨hx, hb, hml, hown, hts⟩ uc_in (kX10_hears_0 l D C A u159 hI a0 A0 ha0 a3 A3 ha3 a4 A4 ha4 y148d y148d.toInt rfl (by omega) (by omega) (by omega) (by omega)) q_m1723 q_n1725 q_p98 q_i11 q_c1726 hvX10_hears ⟨(Nat.le_of_ble_eq_true rfl), (Nat.le_of_ble_eq_true rfl)⟩ ⟨(Nat.le_of_ble_eq_true rfl), (Nat.le_of_ble_eq_true rfl)⟩ hK hH.1 10 0 rfl (mwc0 C A u159) rfl hl.1 rfl (Nat.le_of_ble_eq_true rfl) dX10_roundFrom_112 (fun r165 p166 => ?_)
            have g167 : PCk z162 2 := by rw [ez162, ez161, ez160]; exact PC_step rfl (by omega) (by omega) f157 hpc
            have bg167 := PC_bd g167
            refine cvU (n := 5) (As := [.int a0, .int 4, .int z162, .int z164, .int r165]) (rest := []) ⟨hx, hb, hml, hown, hts⟩ uc_in (kX10_roundFrom_4 l D C A u159 hI a0 A0 ha0 z162 z162.toInt rfl z164 z164.toInt rfl r165 r165.toInt rfl (by omega) (by omega) (by omega) (by omega) g167 _) q_m1719 q_n1721 q_p97 q_i11 q_c1722 hvX10_roundFrom ⟨(Nat.le_of_ble_eq_true rfl), (Nat.le_of_ble_eq_true rfl)⟩ ⟨(Nat.le_of_ble_eq_true rfl), (Nat.le_of_ble_eq_true rfl)⟩ hK hH (fun q h => Or.inr h) Bl0 (fun _ _ _ => trivial) 10 0 rfl (mwc0 C A u159) rfl hl.1 rfl (Nat.le_of_ble_eq_true rfl) dX10_roundFrom_115 (fun u168 H locs p170 hH => ?_)
            obtain ⟨hI, hUu168, p170⟩ := p170
            obtain ⟨z171, ez171⟩ : ∃ z, z = y148d + Int32.ofInt 1 := ⟨_, rfl⟩
            have hz171 : z171.toInt = y148d.toInt + 1 := by rw [ez171]; exact tt_add rfl (by decide) (by omega) (by omega)
            refine lv_iinc (v := z171) (lv' := [(6, .int z171), (0, .ref (A 0)), (1, .int a0), (2, .int 3), (3, .int a2), (4, .int a3), (5, .int a4)]) hx hb dX10_roundFrom_118 hl (k := 0) rfl ez171.symm (by decide) rfl (fun ls hl => ?_)
            refine lv_goto (tgt := 53) hx hb dX10_roundFrom_121 (by decide) ?_
            exact ih53_149 ls z171 u168 _ _ (by have q9 := (show z171.toInt = (y148d.toInt + 1) from hz171); omega) (by have q9 := (show z171.toInt = (y148d.toInt + 1) from hz171); omega) (by have q9 := (show z171.toInt = (y148d.toInt + 1) from hz171); omega) (Un.tr (Un.sa hUu149 rfl eu159) hUu168 rfl rfl rfl) hI hH hl
          · subst e9
            refine lv_if_ne (tgt := 74) hx hb dX10_roundFrom_68 (by decide) (fun c172 => absurd c172 (by decide)) (fun c172 => ?_)
            refine lv_goto (tgt := 118) hx hb dX10_roundFrom_71 (by decide) ?_
            obtain ⟨z173, ez173⟩ : ∃ z, z = y148d + Int32.ofInt 1 := ⟨_, rfl⟩
            have hz173 : z173.toInt = y148d.toInt + 1 := by rw [ez173]; exact tt_add rfl (by decide) (by omega) (by omega)
            refine lv_iinc (v := z173) (lv' := [(6, .int z173), (0, .ref (A 0)), (1, .int a0), (2, .int 3), (3, .int a2), (4, .int a3), (5, .int a4)]) hx hb dX10_roundFrom_118 hl (k := 0) rfl ez173.symm (by decide) rfl (fun ls hl => ?_)
            refine lv_goto (tgt := 53) hx hb dX10_roundFrom_121 (by decide) ?_
            exact ih53_149 ls z173 u149 _ _ (by have q9 := (show z173.toInt = (y148d.toInt + 1) from hz173); omega) (by have q9 := (show z173.toInt = (y148d.toInt + 1) from hz173); omega) (by have q9 := (show z173.toInt = (y148d.toInt + 1) from hz173); omega) hUu149 hI hH hl
    exact lp53_149 7 ls 0 u _ _ (by decide) (by decide) (by have q9 : (0 : Int32).toInt = 0 := (by decide); omega) Un.rf hI hH hl
  · have c1 := cEQ (x := a2) (y := 0) (X := A2) (Y := 0) ha2 (by decide) c1
    refine lv_iload hx hb dX10_roundFrom_4 (lv_at hl 5 rfl) ?_
    refine lv_aload_n hx hb dX10_roundFrom_6 rfl (lv_at hl 0 rfl) ?_
    refine va_get (ci := 10) (v := .int (gi u 33)) (C := RX10) (T := TX10) (N := 42) hx hb hts (fun w h => uc_in w (inX10 w h)) hown hK hH.1 0 (mwc0 C A u) rfl 33 (by decide) (hts _ (uc_in _ q_f1221)) (fun _ h9 => h9) rfl dX10_roundFrom_7 ?_
    refine lv_icmp_lt (tgt := 14) hx hb dX10_roundFrom_10 (by decide) (fun c174 => ?_) (fun c174 => ?_)
    · have c174 := cLT (x := a4) (y := (gi u 33)) (X := A4) (Y := ((gi u 33)).toInt) ha4 rfl c174
      refine lv_aload_n hx hb dX10_roundFrom_14 rfl (lv_at hl 0 rfl) ?_
      refine lv_iload hx hb dX10_roundFrom_15 (lv_at hl 5 rfl) ?_
      refine r_put (j := 33) (ci := 10) (C := RX10) (T := TX10) (N := 42) hx hb hts (fun w h => uc_in w (inX10 w h)) tyX10 tyX10_ok nmX10 hown hK hH 0 (mwc0 C A u) rfl 33 (by decide) (hts _ (uc_in _ q_f1221)) (fun _ h9 => h9) rfl (by decide +kernel) (Nat.le_of_ble_eq_true rfl) (mws33 C A u _) dX10_roundFrom_17 (fun u175 eu175 H locs hH => ?_)
      have hI := hI.pi0 eu175 rfl
      refine lv_iconst (v := 0) hx hb dX10_roundFrom_20 (by decide) ?_
      refine lv_istore (lv' := [(6, .int 0), (0, .ref (A 0)), (1, .int a0), (2, .int 3), (3, .int a2), (4, .int a3), (5, .int a4)]) hx hb dX10_roundFrom_21 hl (by decide) rfl (fun ls hl => ?_)
      have lp23_213 : ∀ (n23 : Nat) (ls : Array Slot) (y212d : Int32) (u213 : St) (H : Heap) (locs : List Loc), 0 ≤ y212d.toInt → y212d.toInt ≤ 3 → 3 - y212d.toInt < (n23 : Int) → Un [] [(17, 17)] [] u175 u213 → IM u213 → Hd D (mw C A) (va_A (mw C A u) s.heap.size) s.heap u213 H locs → lv_has ls 7 [(6, .int y212d), (0, .ref (A 0)), (2, .int 3)] → W p l e (rmL 5 0 0) s m ar below meth c H locs 0 0 Q (F0 m 23 ls []) := by
        intro n23
        induction n23 with
        | zero => intro ls y212d u213 H locs ly212d my212d hmun23 hUu213 hI hH hl; exfalso; omega
        | succ n23 ih23_213 =>
          intro ls y212d u213 H locs ly212d my212d hmun23 hUu213 hI hH hl
          refine lv_iload hx hb dX10_roundFrom_23 (lv_at hl 0 rfl) ?_
          refine lv_iload_n hx hb dX10_roundFrom_25 rfl (lv_at hl 2 rfl) ?_
          refine lv_icmp_ge (tgt := 49) hx hb dX10_roundFrom_26 (by decide) (fun c215 => ?_) (fun c215 => ?_)
          · have c215 := cLE (x := 3) (y := y212d) (X := 3) (Y := y212d.toInt) (by decide) rfl c215
            exact hret _ _ _ _ _ dX10_roundFrom_49 ⟨hI, (Un.tr (Un.si Un.rf rfl eu175) hUu213 rfl rfl rfl), trivial⟩ hH
          · have c215 := cNLE (x := 3) (y := y212d) (X := 3) (Y := y212d.toInt) (by decide) rfl c215
            refine lv_aload_n hx hb dX10_roundFrom_29 rfl (lv_at hl 1 rfl) ?_
            refine va_get (ci := 10) (v := .ref (A 17)) (C := RX10) (T := TX10) (N := 42) hx hb hts (fun w h => uc_in w (inX10 w h)) hown hK hH.1 0 (mwc0 C A u213) rfl 32 (by decide) (hts _ (uc_in _ q_f1220)) (fun _ h9 => h9) rfl dX10_roundFrom_30 ?_
            refine lv_iload hx hb dX10_roundFrom_33 (lv_at hl 0 rfl) ?_
            refine lv_aload_n hx hb dX10_roundFrom_35 rfl (lv_at hl 1 rfl) ?_
            refine va_get (ci := 10) (v := .ref (A 16)) (C := RX10) (T := TX10) (N := 42) hx hb hts (fun w h => uc_in w (inX10 w h)) hown hK hH.1 0 (mwc0 C A u213) rfl 31 (by decide) (hts _ (uc_in _ q_f1219)) (fun _ h9 => h9) rfl dX10_roundFrom_36 ?_
            refine lv_iload hx hb dX10_roundFrom_39 (lv_at hl 0 rfl) ?_
            refine va_iald hx hb hK hH.1 16 1 (mwc16 C A u213) rfl (i_ix rfl (by omega) (by omega)) dX10_roundFrom_41 ?_
            refine p_any (fun z216 => ?_)
            refine r_iast (j := 17) hx hb hK hH 17 1 (mwc17 C A u213) rfl (i_ix rfl (by omega) (by omega)) (mwa17 C A u213) dX10_roundFrom_42 (fun u217 eu217 H locs hH => ?_)
            have hI := hI.pa0 eu217 (by decide) (by decide) (by decide)
            obtain ⟨z218, ez218⟩ : ∃ z, z = y212d + Int32.ofInt 1 := ⟨_, rfl⟩
            have hz218 : z218.toInt = y212d.toInt + 1 := by rw [ez218]; exact tt_add rfl (by decide) (by omega) (by omega)
            refine lv_iinc (v := z218) (lv' := [(6, .int z218), (0, .ref (A 0)), (2, .int 3)]) hx hb dX10_roundFrom_43 hl (k := 0) rfl ez218.symm (by decide) rfl (fun ls hl => ?_)
            refine lv_goto (tgt := 23) hx hb dX10_roundFrom_46 (by decide) ?_
            exact ih23_213 ls z218 u217 _ _ (by have q9 := (show z218.toInt = (y212d.toInt + 1) from hz218); omega) (by have q9 := (show z218.toInt = (y212d.toInt + 1) from hz218); omega) (by have q9 := (show z218.toInt = (y212d.toInt + 1) from hz218); omega) (Un.sa hUu213 rfl eu217) hI hH hl
      exact lp23_213 4 ls 0 u175 _ _ (by decide) (by decide) (by have q9 : (0 : Int32).toInt = 0 := (by decide); omega) Un.rf hI hH (lv_sub hl [0, 1, 3] rfl)
    · have c174 := cNLT (x := a4) (y := (gi u 33)) (X := A4) (Y := ((gi u 33)).toInt) ha4 rfl c174
      exact hret _ _ _ _ _ dX10_roundFrom_13 ⟨hI, Un.rf, trivial⟩ hH
set_option maxHeartbeats 4000000 in
set_option maxRecDepth 100000 in
theorem kX10_roundFrom_2 (l : Launch) (D : va_G) (C : Nat → ClassId) (A : Nat → Nat) (u : St) (hI : IM u) (a0 : Int32) (A0 : Int) (ha0 : a0.toInt = A0) (a2 : Int32) (A2 : Int) (ha2 : a2.toInt = A2) (a3 : Int32) (A3 : Int) (ha3 : a3.toInt = A3) (a4 : Int32) (A4 : Int) (ha4 : a4.toInt = A4) (hl0 : 0 ≤ A0) (hm0 : A0 ≤ 6) (hl2 : 0 ≤ A2) (hm2 : A2 ≤ 63) (hpc : PCk a2 4) (sz : Nat) : MetV l yX10_roundFrom cX10_roundFrom 7 6 [.ref (A 0), .int a0, .int 2, .int a2, .int a3, .int a4] D (tyl C) (mw C A) X0 u sz (fun u' => IM u' ∧ Un [(33, 33)] [(16, 16), (17, 17)] [] u u' ∧ True) := by
  refine mV (by decide) (Nat.le_of_ble_eq_true rfl) ?_
  intro p e s m below meth c ls ar Q hx hb hml hown hts hK hH hX hl hret
  have hown : s.vm.findClass RX10 = some m.cls := hown
  have hl : lv_has ls 7 [(0, .ref (A 0)), (1, .int a0), (2, .int 2), (3, .int a2), (4, .int a3), (5, .int a4)] := hl
  refine lv_iload_n hx hb dX10_roundFrom_0 rfl (lv_at hl 3 rfl) ?_
  refine lv_if_ne (tgt := 50) hx hb dX10_roundFrom_1 (by decide) (fun c1 => ?_) (fun c1 => ?_)
  · have c1 := cNE (x := a2) (y := 0) (X := A2) (Y := 0) ha2 (by decide) c1
    refine lv_iconst (v := 0) hx hb dX10_roundFrom_50 (by decide) ?_
    refine lv_istore (lv' := [(6, .int 0), (0, .ref (A 0)), (1, .int a0), (2, .int 2), (3, .int a2), (4, .int a3), (5, .int a4)]) hx hb dX10_roundFrom_51 hl (by decide) rfl (fun ls hl => ?_)
    have lp53_149 : ∀ (n53 : Nat) (ls : Array Slot) (y148d : Int32) (u149 : St) (H : Heap) (locs : List Loc), 0 ≤ y148d.toInt → y148d.toInt ≤ 6 → 6 - y148d.toInt < (n53 : Int) → Un [(33, 33)] [(16, 16), (17, 17)] [] u u149 → IM u149 → Hd D (mw C A) (va_A (mw C A u) s.heap.size) s.heap u149 H locs → lv_has ls 7 [(6, .int y148d), (0, .ref (A 0)), (1, .int a0), (2, .int 2), (3, .int a2), (4, .int a3), (5, .int a4)] → W p l e (rmL 6 0 0) s m ar below meth c H locs 0 0 Q (F0 m 53 ls []) := by
      intro n53
      induction n53 with
      | zero => intro ls y148d u149 H locs ly148d my148d hmun53 hUu149 hI hH hl; exfalso; omega
      | succ n53 ih53_149 =>
        intro ls y148d u149 H locs ly148d my148d hmun53 hUu149 hI hH hl
        refine lv_iload hx hb dX10_roundFrom_53 (lv_at hl 0 rfl) ?_
        refine lv_aload_n hx hb dX10_roundFrom_55 rfl (lv_at hl 1 rfl) ?_
        refine cvS (n := 0) (As := []) (rest := [.int y148d]) ⟨hx, hb, hml, hown, hts⟩ uc_in (kX10_clocks_0 l D C A u149 hI ) q_m1464 q_n1466 q_p72 q_i11 q_c1467 hvX10_clocks ⟨(Nat.le_of_ble_eq_true rfl), (Nat.le_of_ble_eq_true rfl)⟩ ⟨(Nat.le_of_ble_eq_true rfl), (Nat.le_of_ble_eq_true rfl)⟩ hK hH.1 10 0 rfl (mwc0 C A u149) rfl hl.1 rfl (Nat.le_of_ble_eq_true rfl) dX10_roundFrom_56 (fun r151 p152 => ?_)
        subst p152
        have b153 : 0 ≤ ((ga u149 7 3)).toInt ∧ ((ga u149 7 3)).toInt ≤ 6 := hI.has 3
        refine lv_icmp_ge (tgt := 124) hx hb dX10_roundFrom_59 (by decide) (fun c154 => ?_) (fun c154 => ?_)
        · have c154 := cLE (x := (ga u149 7 3)) (y := y148d) (X := ((ga u149 7 3)).toInt) (Y := y148d.toInt) rfl rfl c154
          exact hret _ _ _ _ _ dX10_roundFrom_124 ⟨hI, (Un.tr Un.rf hUu149 rfl rfl rfl), trivial⟩ hH
        · have c154 := cNLE (x := (ga u149 7 3)) (y := y148d) (X := ((ga u149 7 3)).toInt) (Y := y148d.toInt) rfl rfl c154
          refine lv_iload_n hx hb dX10_roundFrom_62 rfl (lv_at hl 4 rfl) ?_
          refine lv_iload hx hb dX10_roundFrom_63 (lv_at hl 0 rfl) ?_
          refine csS (n := 2) (As := [.int a2, .int y148d]) (rest := []) ⟨hx, hb, hml, hown, hts⟩ uc_in (kX10_isBit_0 l D C A u149 hI a2 A2 ha2 y148d y148d.toInt rfl) q_m1489 q_s1490 q_i11 q_c1491 hvX10_isBit ⟨(Nat.le_of_ble_eq_true rfl), (Nat.le_of_ble_eq_true rfl)⟩ ⟨(Nat.le_of_ble_eq_true rfl), (Nat.le_of_ble_eq_true rfl)⟩ hK hH.1 rfl hl.1 rfl (Nat.le_of_ble_eq_true rfl) dX10_roundFrom_65 (fun r155 p156 => ?_)
          rcases p156 with ⟨e9, f157⟩ | ⟨e9, -⟩
          · subst e9
            refine lv_if_ne (tgt := 74) hx hb dX10_roundFrom_68 (by decide) (fun c158 => ?_) (fun c158 => absurd c158 (by decide))
            refine lv_aload_n hx hb dX10_roundFrom_74 rfl (lv_at hl 1 rfl) ?_
            refine va_get (ci := 10) (v := .ref (A 16)) (C := RX10) (T := TX10) (N := 42) hx hb hts (fun w h => uc_in w (inX10 w h)) hown hK hH.1 0 (mwc0 C A u149) rfl 31 (by decide) (hts _ (uc_in _ q_f1219)) (fun _ h9 => h9) rfl dX10_roundFrom_75 ?_
            refine lv_iload_n hx hb dX10_roundFrom_78 rfl (lv_at hl 3 rfl) ?_
            refine lv_iload hx hb dX10_roundFrom_79 (lv_at hl 0 rfl) ?_
            refine r_iast (j := 16) hx hb hK hH 16 1 (mwc16 C A u149) rfl (i_ix (X := 2) (by decide) (by decide) (by decide)) (mwa16 C A u149) dX10_roundFrom_81 (fun u159 eu159 H locs hH => ?_)
            have hI := hI.pa0 eu159 (by decide) (by decide) (by decide)
            refine lv_aload_n hx hb dX10_roundFrom_82 rfl (lv_at hl 1 rfl) ?_
            refine lv_iload_n hx hb dX10_roundFrom_83 rfl (lv_at hl 2 rfl) ?_
            refine lv_iload_n hx hb dX10_roundFrom_84 rfl (lv_at hl 3 rfl) ?_
            refine lv_iconst (v := 1) hx hb dX10_roundFrom_85 (by decide) ?_
            refine lv_iadd hx hb dX10_roundFrom_86 ?_
            refine pv_i (v := 3) (by decide) ?_
            refine lv_iload_n hx hb dX10_roundFrom_87 rfl (lv_at hl 4 rfl) ?_
            refine lv_iconst (v := 1) hx hb dX10_roundFrom_88 (by decide) ?_
            refine lv_iload hx hb dX10_roundFrom_89 (lv_at hl 0 rfl) ?_
            refine lv_ishl hx hb dX10_roundFrom_91 ?_
            refine lv_topi (fun z160 ez160 => ?_)
            refine lv_iconst (v := (-1)) hx hb dX10_roundFrom_92 (by decide) ?_
            refine lv_ixor hx hb dX10_roundFrom_93 ?_
            refine lv_topi (fun z161 ez161 => ?_)
            refine lv_iand hx hb dX10_roundFrom_94 ?_
            refine lv_topi (fun z162 ez162 => ?_)
            refine lv_aload_n hx hb dX10_roundFrom_95 rfl (lv_at hl 1 rfl) ?_
            refine va_get (ci := 10) (v := .ref (A 8)) (C := RX10) (T := TX10) (N := 42) hx hb hts (fun w h => uc_in w (inX10 w h)) hown hK hH.1 0 (mwc0 C A u159) rfl 18 (by decide) (hts _ (uc_in _ q_f1206)) (fun _ h9 => h9) rfl dX10_roundFrom_96 ?_
            refine lv_iconst (v := 5) hx hb dX10_roundFrom_99 (by decide) ?_
            refine lv_iload hx hb dX10_roundFrom_100 (lv_at hl 0 rfl) ?_
            refine lv_imul hx hb dX10_roundFrom_102 ?_
            refine p_nm (tt_mul (X := 5) (Y := y148d.toInt) (by decide) rfl (by omega) (by omega)) (fun z163 hz163 => ?_)
            refine va_iald hx hb hK hH.1 8 1 (mwc8 C A u159) rfl (i_ix hz163 (by omega) (by omega)) dX10_roundFrom_103 ?_
            refine p_any (fun z164 => ?_)
            refine lv_aload_n hx hb dX10_roundFrom_104 rfl (lv_at hl 1 rfl) ?_
            refine lv_iload_n hx hb dX10_roundFrom_105 rfl (lv_at hl 2 rfl) ?_
            refine lv_iload hx hb dX10_roundFrom_106 (lv_at hl 5 rfl) ?_
            refine lv_iload hx hb dX10_roundFrom_108 (lv_at hl 6 rfl) ?_
            refine lv_iload hx hb dX10_roundFrom_110 (lv_at hl 0 rfl) ?_
            refine cvS (n := 4) (As := [.int a0, .int a3, .int a4, .int y148d]) (rest := [.int z164, .int z162, .int 3, .int a0, .ref (A 0)]) ⟨hx, hb, hml, hown, hts⟩ uc_in (kX10_hears_0 l D C A u159 hI a0 A0 ha0 a3 A3 ha3 a4 A4 ha4 y148d y148d.toInt rfl (by omega) (by omega) (by omega) (by omega)) q_m1723 q_n1725 q_p98 q_i11 q_c1726 hvX10_hears ⟨(Nat.le_of_ble_eq_true rfl), (Nat.le_of_ble_eq_true rfl)⟩ ⟨(Nat.le_of_ble_eq_true rfl), (Nat.le_of_ble_eq_true rfl)⟩ hK hH.1 10 0 rfl (mwc0 C A u159) rfl hl.1 rfl (Nat.le_of_ble_eq_true rfl) dX10_roundFrom_112 (fun r165 p166 => ?_)
            have g167 : PCk z162 3 := by rw [ez162, ez161, ez160]; exact PC_step rfl (by omega) (by omega) f157 hpc
            have bg167 := PC_bd g167
            refine cvU (n := 5) (As := [.int a0, .int 3, .int z162, .int z164, .int r165]) (rest := []) ⟨hx, hb, hml, hown, hts⟩ uc_in (kX10_roundFrom_3 l D C A u159 hI a0 A0 ha0 z162 z162.toInt rfl z164 z164.toInt rfl r165 r165.toInt rfl (by omega) (by omega) (by omega) (by omega) g167 _) q_m1719 q_n1721 q_p97 q_i11 q_c1722 hvX10_roundFrom ⟨(Nat.le_of_ble_eq_true rfl), (Nat.le_of_ble_eq_true rfl)⟩ ⟨(Nat.le_of_ble_eq_true rfl), (Nat.le_of_ble_eq_true rfl)⟩ hK hH (fun q h => Or.inr h) Bl0 (fun _ _ _ => trivial) 10 0 rfl (mwc0 C A u159) rfl hl.1 rfl (Nat.le_of_ble_eq_true rfl) dX10_roundFrom_115 (fun u168 H locs p170 hH => ?_)
            obtain ⟨hI, hUu168, p170⟩ := p170
            obtain ⟨z171, ez171⟩ : ∃ z, z = y148d + Int32.ofInt 1 := ⟨_, rfl⟩
            have hz171 : z171.toInt = y148d.toInt + 1 := by rw [ez171]; exact tt_add rfl (by decide) (by omega) (by omega)
            refine lv_iinc (v := z171) (lv' := [(6, .int z171), (0, .ref (A 0)), (1, .int a0), (2, .int 2), (3, .int a2), (4, .int a3), (5, .int a4)]) hx hb dX10_roundFrom_118 hl (k := 0) rfl ez171.symm (by decide) rfl (fun ls hl => ?_)
            refine lv_goto (tgt := 53) hx hb dX10_roundFrom_121 (by decide) ?_
            exact ih53_149 ls z171 u168 _ _ (by have q9 := (show z171.toInt = (y148d.toInt + 1) from hz171); omega) (by have q9 := (show z171.toInt = (y148d.toInt + 1) from hz171); omega) (by have q9 := (show z171.toInt = (y148d.toInt + 1) from hz171); omega) (Un.tr (Un.sa hUu149 rfl eu159) hUu168 rfl rfl rfl) hI hH hl
          · subst e9
            refine lv_if_ne (tgt := 74) hx hb dX10_roundFrom_68 (by decide) (fun c172 => absurd c172 (by decide)) (fun c172 => ?_)
            refine lv_goto (tgt := 118) hx hb dX10_roundFrom_71 (by decide) ?_
            obtain ⟨z173, ez173⟩ : ∃ z, z = y148d + Int32.ofInt 1 := ⟨_, rfl⟩
            have hz173 : z173.toInt = y148d.toInt + 1 := by rw [ez173]; exact tt_add rfl (by decide) (by omega) (by omega)
            refine lv_iinc (v := z173) (lv' := [(6, .int z173), (0, .ref (A 0)), (1, .int a0), (2, .int 2), (3, .int a2), (4, .int a3), (5, .int a4)]) hx hb dX10_roundFrom_118 hl (k := 0) rfl ez173.symm (by decide) rfl (fun ls hl => ?_)
            refine lv_goto (tgt := 53) hx hb dX10_roundFrom_121 (by decide) ?_
            exact ih53_149 ls z173 u149 _ _ (by have q9 := (show z173.toInt = (y148d.toInt + 1) from hz173); omega) (by have q9 := (show z173.toInt = (y148d.toInt + 1) from hz173); omega) (by have q9 := (show z173.toInt = (y148d.toInt + 1) from hz173); omega) hUu149 hI hH hl
    exact lp53_149 7 ls 0 u _ _ (by decide) (by decide) (by have q9 : (0 : Int32).toInt = 0 := (by decide); omega) Un.rf hI hH hl
  · have c1 := cEQ (x := a2) (y := 0) (X := A2) (Y := 0) ha2 (by decide) c1
    refine lv_iload hx hb dX10_roundFrom_4 (lv_at hl 5 rfl) ?_
    refine lv_aload_n hx hb dX10_roundFrom_6 rfl (lv_at hl 0 rfl) ?_
    refine va_get (ci := 10) (v := .int (gi u 33)) (C := RX10) (T := TX10) (N := 42) hx hb hts (fun w h => uc_in w (inX10 w h)) hown hK hH.1 0 (mwc0 C A u) rfl 33 (by decide) (hts _ (uc_in _ q_f1221)) (fun _ h9 => h9) rfl dX10_roundFrom_7 ?_
    refine lv_icmp_lt (tgt := 14) hx hb dX10_roundFrom_10 (by decide) (fun c174 => ?_) (fun c174 => ?_)
    · have c174 := cLT (x := a4) (y := (gi u 33)) (X := A4) (Y := ((gi u 33)).toInt) ha4 rfl c174
      refine lv_aload_n hx hb dX10_roundFrom_14 rfl (lv_at hl 0 rfl) ?_
      refine lv_iload hx hb dX10_roundFrom_15 (lv_at hl 5 rfl) ?_
      refine r_put (j := 33) (ci := 10) (C := RX10) (T := TX10) (N := 42) hx hb hts (fun w h => uc_in w (inX10 w h)) tyX10 tyX10_ok nmX10 hown hK hH 0 (mwc0 C A u) rfl 33 (by decide) (hts _ (uc_in _ q_f1221)) (fun _ h9 => h9) rfl (by decide +kernel) (Nat.le_of_ble_eq_true rfl) (mws33 C A u _) dX10_roundFrom_17 (fun u175 eu175 H locs hH => ?_)
      have hI := hI.pi0 eu175 rfl
      refine lv_iconst (v := 0) hx hb dX10_roundFrom_20 (by decide) ?_
      refine lv_istore (lv' := [(6, .int 0), (0, .ref (A 0)), (1, .int a0), (2, .int 2), (3, .int a2), (4, .int a3), (5, .int a4)]) hx hb dX10_roundFrom_21 hl (by decide) rfl (fun ls hl => ?_)
      have lp23_199 : ∀ (n23 : Nat) (ls : Array Slot) (y198d : Int32) (u199 : St) (H : Heap) (locs : List Loc), 0 ≤ y198d.toInt → y198d.toInt ≤ 2 → 2 - y198d.toInt < (n23 : Int) → Un [] [(17, 17)] [] u175 u199 → IM u199 → Hd D (mw C A) (va_A (mw C A u) s.heap.size) s.heap u199 H locs → lv_has ls 7 [(6, .int y198d), (0, .ref (A 0)), (2, .int 2)] → W p l e (rmL 6 0 0) s m ar below meth c H locs 0 0 Q (F0 m 23 ls []) := by
        intro n23
        induction n23 with
        | zero => intro ls y198d u199 H locs ly198d my198d hmun23 hUu199 hI hH hl; exfalso; omega
        | succ n23 ih23_199 =>
          intro ls y198d u199 H locs ly198d my198d hmun23 hUu199 hI hH hl
          refine lv_iload hx hb dX10_roundFrom_23 (lv_at hl 0 rfl) ?_
          refine lv_iload_n hx hb dX10_roundFrom_25 rfl (lv_at hl 2 rfl) ?_
          refine lv_icmp_ge (tgt := 49) hx hb dX10_roundFrom_26 (by decide) (fun c201 => ?_) (fun c201 => ?_)
          · have c201 := cLE (x := 2) (y := y198d) (X := 2) (Y := y198d.toInt) (by decide) rfl c201
            exact hret _ _ _ _ _ dX10_roundFrom_49 ⟨hI, (Un.tr (Un.si Un.rf rfl eu175) hUu199 rfl rfl rfl), trivial⟩ hH
          · have c201 := cNLE (x := 2) (y := y198d) (X := 2) (Y := y198d.toInt) (by decide) rfl c201
            refine lv_aload_n hx hb dX10_roundFrom_29 rfl (lv_at hl 1 rfl) ?_
            refine va_get (ci := 10) (v := .ref (A 17)) (C := RX10) (T := TX10) (N := 42) hx hb hts (fun w h => uc_in w (inX10 w h)) hown hK hH.1 0 (mwc0 C A u199) rfl 32 (by decide) (hts _ (uc_in _ q_f1220)) (fun _ h9 => h9) rfl dX10_roundFrom_30 ?_
            refine lv_iload hx hb dX10_roundFrom_33 (lv_at hl 0 rfl) ?_
            refine lv_aload_n hx hb dX10_roundFrom_35 rfl (lv_at hl 1 rfl) ?_
            refine va_get (ci := 10) (v := .ref (A 16)) (C := RX10) (T := TX10) (N := 42) hx hb hts (fun w h => uc_in w (inX10 w h)) hown hK hH.1 0 (mwc0 C A u199) rfl 31 (by decide) (hts _ (uc_in _ q_f1219)) (fun _ h9 => h9) rfl dX10_roundFrom_36 ?_
            refine lv_iload hx hb dX10_roundFrom_39 (lv_at hl 0 rfl) ?_
            refine va_iald hx hb hK hH.1 16 1 (mwc16 C A u199) rfl (i_ix rfl (by omega) (by omega)) dX10_roundFrom_41 ?_
            refine p_any (fun z202 => ?_)
            refine r_iast (j := 17) hx hb hK hH 17 1 (mwc17 C A u199) rfl (i_ix rfl (by omega) (by omega)) (mwa17 C A u199) dX10_roundFrom_42 (fun u203 eu203 H locs hH => ?_)
            have hI := hI.pa0 eu203 (by decide) (by decide) (by decide)
            obtain ⟨z204, ez204⟩ : ∃ z, z = y198d + Int32.ofInt 1 := ⟨_, rfl⟩
            have hz204 : z204.toInt = y198d.toInt + 1 := by rw [ez204]; exact tt_add rfl (by decide) (by omega) (by omega)
            refine lv_iinc (v := z204) (lv' := [(6, .int z204), (0, .ref (A 0)), (2, .int 2)]) hx hb dX10_roundFrom_43 hl (k := 0) rfl ez204.symm (by decide) rfl (fun ls hl => ?_)
            refine lv_goto (tgt := 23) hx hb dX10_roundFrom_46 (by decide) ?_
            exact ih23_199 ls z204 u203 _ _ (by have q9 := (show z204.toInt = (y198d.toInt + 1) from hz204); omega) (by have q9 := (show z204.toInt = (y198d.toInt + 1) from hz204); omega) (by have q9 := (show z204.toInt = (y198d.toInt + 1) from hz204); omega) (Un.sa hUu199 rfl eu203) hI hH hl
      exact lp23_199 3 ls 0 u175 _ _ (by decide) (by decide) (by have q9 : (0 : Int32).toInt = 0 := (by decide); omega) Un.rf hI hH (lv_sub hl [0, 1, 3] rfl)
    · have c174 := cNLT (x := a4) (y := (gi u 33)) (X := A4) (Y := ((gi u 33)).toInt) ha4 rfl c174
      exact hret _ _ _ _ _ dX10_roundFrom_13 ⟨hI, Un.rf, trivial⟩ hH
set_option maxHeartbeats 4000000 in
set_option maxRecDepth 100000 in
theorem kX10_roundFrom_1 (l : Launch) (D : va_G) (C : Nat → ClassId) (A : Nat → Nat) (u : St) (hI : IM u) (a0 : Int32) (A0 : Int) (ha0 : a0.toInt = A0) (a2 : Int32) (A2 : Int) (ha2 : a2.toInt = A2) (a3 : Int32) (A3 : Int) (ha3 : a3.toInt = A3) (a4 : Int32) (A4 : Int) (ha4 : a4.toInt = A4) (hl0 : 0 ≤ A0) (hm0 : A0 ≤ 6) (hl2 : 0 ≤ A2) (hm2 : A2 ≤ 63) (hpc : PCk a2 5) (sz : Nat) : MetV l yX10_roundFrom cX10_roundFrom 7 7 [.ref (A 0), .int a0, .int 1, .int a2, .int a3, .int a4] D (tyl C) (mw C A) X0 u sz (fun u' => IM u' ∧ Un [(33, 33)] [(16, 16), (17, 17)] [] u u' ∧ True) := by
  refine mV (by decide) (Nat.le_of_ble_eq_true rfl) ?_
  intro p e s m below meth c ls ar Q hx hb hml hown hts hK hH hX hl hret
  have hown : s.vm.findClass RX10 = some m.cls := hown
  have hl : lv_has ls 7 [(0, .ref (A 0)), (1, .int a0), (2, .int 1), (3, .int a2), (4, .int a3), (5, .int a4)] := hl
  refine lv_iload_n hx hb dX10_roundFrom_0 rfl (lv_at hl 3 rfl) ?_
  refine lv_if_ne (tgt := 50) hx hb dX10_roundFrom_1 (by decide) (fun c1 => ?_) (fun c1 => ?_)
  · have c1 := cNE (x := a2) (y := 0) (X := A2) (Y := 0) ha2 (by decide) c1
    refine lv_iconst (v := 0) hx hb dX10_roundFrom_50 (by decide) ?_
    refine lv_istore (lv' := [(6, .int 0), (0, .ref (A 0)), (1, .int a0), (2, .int 1), (3, .int a2), (4, .int a3), (5, .int a4)]) hx hb dX10_roundFrom_51 hl (by decide) rfl (fun ls hl => ?_)
    have lp53_149 : ∀ (n53 : Nat) (ls : Array Slot) (y148d : Int32) (u149 : St) (H : Heap) (locs : List Loc), 0 ≤ y148d.toInt → y148d.toInt ≤ 6 → 6 - y148d.toInt < (n53 : Int) → Un [(33, 33)] [(16, 16), (17, 17)] [] u u149 → IM u149 → Hd D (mw C A) (va_A (mw C A u) s.heap.size) s.heap u149 H locs → lv_has ls 7 [(6, .int y148d), (0, .ref (A 0)), (1, .int a0), (2, .int 1), (3, .int a2), (4, .int a3), (5, .int a4)] → W p l e (rmL 7 0 0) s m ar below meth c H locs 0 0 Q (F0 m 53 ls []) := by
      intro n53
      induction n53 with
      | zero => intro ls y148d u149 H locs ly148d my148d hmun53 hUu149 hI hH hl; exfalso; omega
      | succ n53 ih53_149 =>
        intro ls y148d u149 H locs ly148d my148d hmun53 hUu149 hI hH hl
        refine lv_iload hx hb dX10_roundFrom_53 (lv_at hl 0 rfl) ?_
        refine lv_aload_n hx hb dX10_roundFrom_55 rfl (lv_at hl 1 rfl) ?_
        refine cvS (n := 0) (As := []) (rest := [.int y148d]) ⟨hx, hb, hml, hown, hts⟩ uc_in (kX10_clocks_0 l D C A u149 hI ) q_m1464 q_n1466 q_p72 q_i11 q_c1467 hvX10_clocks ⟨(Nat.le_of_ble_eq_true rfl), (Nat.le_of_ble_eq_true rfl)⟩ ⟨(Nat.le_of_ble_eq_true rfl), (Nat.le_of_ble_eq_true rfl)⟩ hK hH.1 10 0 rfl (mwc0 C A u149) rfl hl.1 rfl (Nat.le_of_ble_eq_true rfl) dX10_roundFrom_56 (fun r151 p152 => ?_)
        subst p152
        have b153 : 0 ≤ ((ga u149 7 3)).toInt ∧ ((ga u149 7 3)).toInt ≤ 6 := hI.has 3
        refine lv_icmp_ge (tgt := 124) hx hb dX10_roundFrom_59 (by decide) (fun c154 => ?_) (fun c154 => ?_)
        · have c154 := cLE (x := (ga u149 7 3)) (y := y148d) (X := ((ga u149 7 3)).toInt) (Y := y148d.toInt) rfl rfl c154
          exact hret _ _ _ _ _ dX10_roundFrom_124 ⟨hI, (Un.tr Un.rf hUu149 rfl rfl rfl), trivial⟩ hH
        · have c154 := cNLE (x := (ga u149 7 3)) (y := y148d) (X := ((ga u149 7 3)).toInt) (Y := y148d.toInt) rfl rfl c154
          refine lv_iload_n hx hb dX10_roundFrom_62 rfl (lv_at hl 4 rfl) ?_
          refine lv_iload hx hb dX10_roundFrom_63 (lv_at hl 0 rfl) ?_
          refine csS (n := 2) (As := [.int a2, .int y148d]) (rest := []) ⟨hx, hb, hml, hown, hts⟩ uc_in (kX10_isBit_0 l D C A u149 hI a2 A2 ha2 y148d y148d.toInt rfl) q_m1489 q_s1490 q_i11 q_c1491 hvX10_isBit ⟨(Nat.le_of_ble_eq_true rfl), (Nat.le_of_ble_eq_true rfl)⟩ ⟨(Nat.le_of_ble_eq_true rfl), (Nat.le_of_ble_eq_true rfl)⟩ hK hH.1 rfl hl.1 rfl (Nat.le_of_ble_eq_true rfl) dX10_roundFrom_65 (fun r155 p156 => ?_)
          rcases p156 with ⟨e9, f157⟩ | ⟨e9, -⟩
          · subst e9
            refine lv_if_ne (tgt := 74) hx hb dX10_roundFrom_68 (by decide) (fun c158 => ?_) (fun c158 => absurd c158 (by decide))
            refine lv_aload_n hx hb dX10_roundFrom_74 rfl (lv_at hl 1 rfl) ?_
            refine va_get (ci := 10) (v := .ref (A 16)) (C := RX10) (T := TX10) (N := 42) hx hb hts (fun w h => uc_in w (inX10 w h)) hown hK hH.1 0 (mwc0 C A u149) rfl 31 (by decide) (hts _ (uc_in _ q_f1219)) (fun _ h9 => h9) rfl dX10_roundFrom_75 ?_
            refine lv_iload_n hx hb dX10_roundFrom_78 rfl (lv_at hl 3 rfl) ?_
            refine lv_iload hx hb dX10_roundFrom_79 (lv_at hl 0 rfl) ?_
            refine r_iast (j := 16) hx hb hK hH 16 1 (mwc16 C A u149) rfl (i_ix (X := 1) (by decide) (by decide) (by decide)) (mwa16 C A u149) dX10_roundFrom_81 (fun u159 eu159 H locs hH => ?_)
            have hI := hI.pa0 eu159 (by decide) (by decide) (by decide)
            refine lv_aload_n hx hb dX10_roundFrom_82 rfl (lv_at hl 1 rfl) ?_
            refine lv_iload_n hx hb dX10_roundFrom_83 rfl (lv_at hl 2 rfl) ?_
            refine lv_iload_n hx hb dX10_roundFrom_84 rfl (lv_at hl 3 rfl) ?_
            refine lv_iconst (v := 1) hx hb dX10_roundFrom_85 (by decide) ?_
            refine lv_iadd hx hb dX10_roundFrom_86 ?_
            refine pv_i (v := 2) (by decide) ?_
            refine lv_iload_n hx hb dX10_roundFrom_87 rfl (lv_at hl 4 rfl) ?_
            refine lv_iconst (v := 1) hx hb dX10_roundFrom_88 (by decide) ?_
            refine lv_iload hx hb dX10_roundFrom_89 (lv_at hl 0 rfl) ?_
            refine lv_ishl hx hb dX10_roundFrom_91 ?_
            refine lv_topi (fun z160 ez160 => ?_)
            refine lv_iconst (v := (-1)) hx hb dX10_roundFrom_92 (by decide) ?_
            refine lv_ixor hx hb dX10_roundFrom_93 ?_
            refine lv_topi (fun z161 ez161 => ?_)
            refine lv_iand hx hb dX10_roundFrom_94 ?_
            refine lv_topi (fun z162 ez162 => ?_)
            refine lv_aload_n hx hb dX10_roundFrom_95 rfl (lv_at hl 1 rfl) ?_
            refine va_get (ci := 10) (v := .ref (A 8)) (C := RX10) (T := TX10) (N := 42) hx hb hts (fun w h => uc_in w (inX10 w h)) hown hK hH.1 0 (mwc0 C A u159) rfl 18 (by decide) (hts _ (uc_in _ q_f1206)) (fun _ h9 => h9) rfl dX10_roundFrom_96 ?_
            refine lv_iconst (v := 5) hx hb dX10_roundFrom_99 (by decide) ?_
            refine lv_iload hx hb dX10_roundFrom_100 (lv_at hl 0 rfl) ?_
            refine lv_imul hx hb dX10_roundFrom_102 ?_
            refine p_nm (tt_mul (X := 5) (Y := y148d.toInt) (by decide) rfl (by omega) (by omega)) (fun z163 hz163 => ?_)
            refine va_iald hx hb hK hH.1 8 1 (mwc8 C A u159) rfl (i_ix hz163 (by omega) (by omega)) dX10_roundFrom_103 ?_
            refine p_any (fun z164 => ?_)
            refine lv_aload_n hx hb dX10_roundFrom_104 rfl (lv_at hl 1 rfl) ?_
            refine lv_iload_n hx hb dX10_roundFrom_105 rfl (lv_at hl 2 rfl) ?_
            refine lv_iload hx hb dX10_roundFrom_106 (lv_at hl 5 rfl) ?_
            refine lv_iload hx hb dX10_roundFrom_108 (lv_at hl 6 rfl) ?_
            refine lv_iload hx hb dX10_roundFrom_110 (lv_at hl 0 rfl) ?_
            refine cvS (n := 4) (As := [.int a0, .int a3, .int a4, .int y148d]) (rest := [.int z164, .int z162, .int 2, .int a0, .ref (A 0)]) ⟨hx, hb, hml, hown, hts⟩ uc_in (kX10_hears_0 l D C A u159 hI a0 A0 ha0 a3 A3 ha3 a4 A4 ha4 y148d y148d.toInt rfl (by omega) (by omega) (by omega) (by omega)) q_m1723 q_n1725 q_p98 q_i11 q_c1726 hvX10_hears ⟨(Nat.le_of_ble_eq_true rfl), (Nat.le_of_ble_eq_true rfl)⟩ ⟨(Nat.le_of_ble_eq_true rfl), (Nat.le_of_ble_eq_true rfl)⟩ hK hH.1 10 0 rfl (mwc0 C A u159) rfl hl.1 rfl (Nat.le_of_ble_eq_true rfl) dX10_roundFrom_112 (fun r165 p166 => ?_)
            have g167 : PCk z162 4 := by rw [ez162, ez161, ez160]; exact PC_step rfl (by omega) (by omega) f157 hpc
            have bg167 := PC_bd g167
            refine cvU (n := 5) (As := [.int a0, .int 2, .int z162, .int z164, .int r165]) (rest := []) ⟨hx, hb, hml, hown, hts⟩ uc_in (kX10_roundFrom_2 l D C A u159 hI a0 A0 ha0 z162 z162.toInt rfl z164 z164.toInt rfl r165 r165.toInt rfl (by omega) (by omega) (by omega) (by omega) g167 _) q_m1719 q_n1721 q_p97 q_i11 q_c1722 hvX10_roundFrom ⟨(Nat.le_of_ble_eq_true rfl), (Nat.le_of_ble_eq_true rfl)⟩ ⟨(Nat.le_of_ble_eq_true rfl), (Nat.le_of_ble_eq_true rfl)⟩ hK hH (fun q h => Or.inr h) Bl0 (fun _ _ _ => trivial) 10 0 rfl (mwc0 C A u159) rfl hl.1 rfl (Nat.le_of_ble_eq_true rfl) dX10_roundFrom_115 (fun u168 H locs p170 hH => ?_)
            obtain ⟨hI, hUu168, p170⟩ := p170
            obtain ⟨z171, ez171⟩ : ∃ z, z = y148d + Int32.ofInt 1 := ⟨_, rfl⟩
            have hz171 : z171.toInt = y148d.toInt + 1 := by rw [ez171]; exact tt_add rfl (by decide) (by omega) (by omega)
            refine lv_iinc (v := z171) (lv' := [(6, .int z171), (0, .ref (A 0)), (1, .int a0), (2, .int 1), (3, .int a2), (4, .int a3), (5, .int a4)]) hx hb dX10_roundFrom_118 hl (k := 0) rfl ez171.symm (by decide) rfl (fun ls hl => ?_)
            refine lv_goto (tgt := 53) hx hb dX10_roundFrom_121 (by decide) ?_
            exact ih53_149 ls z171 u168 _ _ (by have q9 := (show z171.toInt = (y148d.toInt + 1) from hz171); omega) (by have q9 := (show z171.toInt = (y148d.toInt + 1) from hz171); omega) (by have q9 := (show z171.toInt = (y148d.toInt + 1) from hz171); omega) (Un.tr (Un.sa hUu149 rfl eu159) hUu168 rfl rfl rfl) hI hH hl
          · subst e9
            refine lv_if_ne (tgt := 74) hx hb dX10_roundFrom_68 (by decide) (fun c172 => absurd c172 (by decide)) (fun c172 => ?_)
            refine lv_goto (tgt := 118) hx hb dX10_roundFrom_71 (by decide) ?_
            obtain ⟨z173, ez173⟩ : ∃ z, z = y148d + Int32.ofInt 1 := ⟨_, rfl⟩
            have hz173 : z173.toInt = y148d.toInt + 1 := by rw [ez173]; exact tt_add rfl (by decide) (by omega) (by omega)
            refine lv_iinc (v := z173) (lv' := [(6, .int z173), (0, .ref (A 0)), (1, .int a0), (2, .int 1), (3, .int a2), (4, .int a3), (5, .int a4)]) hx hb dX10_roundFrom_118 hl (k := 0) rfl ez173.symm (by decide) rfl (fun ls hl => ?_)
            refine lv_goto (tgt := 53) hx hb dX10_roundFrom_121 (by decide) ?_
            exact ih53_149 ls z173 u149 _ _ (by have q9 := (show z173.toInt = (y148d.toInt + 1) from hz173); omega) (by have q9 := (show z173.toInt = (y148d.toInt + 1) from hz173); omega) (by have q9 := (show z173.toInt = (y148d.toInt + 1) from hz173); omega) hUu149 hI hH hl
    exact lp53_149 7 ls 0 u _ _ (by decide) (by decide) (by have q9 : (0 : Int32).toInt = 0 := (by decide); omega) Un.rf hI hH hl
  · have c1 := cEQ (x := a2) (y := 0) (X := A2) (Y := 0) ha2 (by decide) c1
    refine lv_iload hx hb dX10_roundFrom_4 (lv_at hl 5 rfl) ?_
    refine lv_aload_n hx hb dX10_roundFrom_6 rfl (lv_at hl 0 rfl) ?_
    refine va_get (ci := 10) (v := .int (gi u 33)) (C := RX10) (T := TX10) (N := 42) hx hb hts (fun w h => uc_in w (inX10 w h)) hown hK hH.1 0 (mwc0 C A u) rfl 33 (by decide) (hts _ (uc_in _ q_f1221)) (fun _ h9 => h9) rfl dX10_roundFrom_7 ?_
    refine lv_icmp_lt (tgt := 14) hx hb dX10_roundFrom_10 (by decide) (fun c174 => ?_) (fun c174 => ?_)
    · have c174 := cLT (x := a4) (y := (gi u 33)) (X := A4) (Y := ((gi u 33)).toInt) ha4 rfl c174
      refine lv_aload_n hx hb dX10_roundFrom_14 rfl (lv_at hl 0 rfl) ?_
      refine lv_iload hx hb dX10_roundFrom_15 (lv_at hl 5 rfl) ?_
      refine r_put (j := 33) (ci := 10) (C := RX10) (T := TX10) (N := 42) hx hb hts (fun w h => uc_in w (inX10 w h)) tyX10 tyX10_ok nmX10 hown hK hH 0 (mwc0 C A u) rfl 33 (by decide) (hts _ (uc_in _ q_f1221)) (fun _ h9 => h9) rfl (by decide +kernel) (Nat.le_of_ble_eq_true rfl) (mws33 C A u _) dX10_roundFrom_17 (fun u175 eu175 H locs hH => ?_)
      have hI := hI.pi0 eu175 rfl
      refine lv_iconst (v := 0) hx hb dX10_roundFrom_20 (by decide) ?_
      refine lv_istore (lv' := [(6, .int 0), (0, .ref (A 0)), (1, .int a0), (2, .int 1), (3, .int a2), (4, .int a3), (5, .int a4)]) hx hb dX10_roundFrom_21 hl (by decide) rfl (fun ls hl => ?_)
      have lp23_192 : ∀ (n23 : Nat) (ls : Array Slot) (y191d : Int32) (u192 : St) (H : Heap) (locs : List Loc), 0 ≤ y191d.toInt → y191d.toInt ≤ 1 → 1 - y191d.toInt < (n23 : Int) → Un [] [(17, 17)] [] u175 u192 → IM u192 → Hd D (mw C A) (va_A (mw C A u) s.heap.size) s.heap u192 H locs → lv_has ls 7 [(6, .int y191d), (0, .ref (A 0)), (2, .int 1)] → W p l e (rmL 7 0 0) s m ar below meth c H locs 0 0 Q (F0 m 23 ls []) := by
        intro n23
        induction n23 with
        | zero => intro ls y191d u192 H locs ly191d my191d hmun23 hUu192 hI hH hl; exfalso; omega
        | succ n23 ih23_192 =>
          intro ls y191d u192 H locs ly191d my191d hmun23 hUu192 hI hH hl
          refine lv_iload hx hb dX10_roundFrom_23 (lv_at hl 0 rfl) ?_
          refine lv_iload_n hx hb dX10_roundFrom_25 rfl (lv_at hl 2 rfl) ?_
          refine lv_icmp_ge (tgt := 49) hx hb dX10_roundFrom_26 (by decide) (fun c194 => ?_) (fun c194 => ?_)
          · have c194 := cLE (x := 1) (y := y191d) (X := 1) (Y := y191d.toInt) (by decide) rfl c194
            exact hret _ _ _ _ _ dX10_roundFrom_49 ⟨hI, (Un.tr (Un.si Un.rf rfl eu175) hUu192 rfl rfl rfl), trivial⟩ hH
          · have c194 := cNLE (x := 1) (y := y191d) (X := 1) (Y := y191d.toInt) (by decide) rfl c194
            refine lv_aload_n hx hb dX10_roundFrom_29 rfl (lv_at hl 1 rfl) ?_
            refine va_get (ci := 10) (v := .ref (A 17)) (C := RX10) (T := TX10) (N := 42) hx hb hts (fun w h => uc_in w (inX10 w h)) hown hK hH.1 0 (mwc0 C A u192) rfl 32 (by decide) (hts _ (uc_in _ q_f1220)) (fun _ h9 => h9) rfl dX10_roundFrom_30 ?_
            refine lv_iload hx hb dX10_roundFrom_33 (lv_at hl 0 rfl) ?_
            refine lv_aload_n hx hb dX10_roundFrom_35 rfl (lv_at hl 1 rfl) ?_
            refine va_get (ci := 10) (v := .ref (A 16)) (C := RX10) (T := TX10) (N := 42) hx hb hts (fun w h => uc_in w (inX10 w h)) hown hK hH.1 0 (mwc0 C A u192) rfl 31 (by decide) (hts _ (uc_in _ q_f1219)) (fun _ h9 => h9) rfl dX10_roundFrom_36 ?_
            refine lv_iload hx hb dX10_roundFrom_39 (lv_at hl 0 rfl) ?_
            refine va_iald hx hb hK hH.1 16 1 (mwc16 C A u192) rfl (i_ix rfl (by omega) (by omega)) dX10_roundFrom_41 ?_
            refine p_any (fun z195 => ?_)
            refine r_iast (j := 17) hx hb hK hH 17 1 (mwc17 C A u192) rfl (i_ix rfl (by omega) (by omega)) (mwa17 C A u192) dX10_roundFrom_42 (fun u196 eu196 H locs hH => ?_)
            have hI := hI.pa0 eu196 (by decide) (by decide) (by decide)
            obtain ⟨z197, ez197⟩ : ∃ z, z = y191d + Int32.ofInt 1 := ⟨_, rfl⟩
            have hz197 : z197.toInt = y191d.toInt + 1 := by rw [ez197]; exact tt_add rfl (by decide) (by omega) (by omega)
            refine lv_iinc (v := z197) (lv' := [(6, .int z197), (0, .ref (A 0)), (2, .int 1)]) hx hb dX10_roundFrom_43 hl (k := 0) rfl ez197.symm (by decide) rfl (fun ls hl => ?_)
            refine lv_goto (tgt := 23) hx hb dX10_roundFrom_46 (by decide) ?_
            exact ih23_192 ls z197 u196 _ _ (by have q9 := (show z197.toInt = (y191d.toInt + 1) from hz197); omega) (by have q9 := (show z197.toInt = (y191d.toInt + 1) from hz197); omega) (by have q9 := (show z197.toInt = (y191d.toInt + 1) from hz197); omega) (Un.sa hUu192 rfl eu196) hI hH hl
      exact lp23_192 2 ls 0 u175 _ _ (by decide) (by decide) (by have q9 : (0 : Int32).toInt = 0 := (by decide); omega) Un.rf hI hH (lv_sub hl [0, 1, 3] rfl)
    · have c174 := cNLT (x := a4) (y := (gi u 33)) (X := A4) (Y := ((gi u 33)).toInt) ha4 rfl c174
      exact hret _ _ _ _ _ dX10_roundFrom_13 ⟨hI, Un.rf, trivial⟩ hH
set_option maxHeartbeats 4000000 in
set_option maxRecDepth 100000 in
theorem kX10_roundFrom_0 (l : Launch) (D : va_G) (C : Nat → ClassId) (A : Nat → Nat) (u : St) (hI : IM u) (a0 : Int32) (A0 : Int) (ha0 : a0.toInt = A0) (a2 : Int32) (A2 : Int) (ha2 : a2.toInt = A2) (a3 : Int32) (A3 : Int) (ha3 : a3.toInt = A3) (a4 : Int32) (A4 : Int) (ha4 : a4.toInt = A4) (hl0 : 0 ≤ A0) (hm0 : A0 ≤ 6) (hl2 : 0 ≤ A2) (hm2 : A2 ≤ 63) (hpc : PCk a2 6) (sz : Nat) : MetV l yX10_roundFrom cX10_roundFrom 7 8 [.ref (A 0), .int a0, .int 0, .int a2, .int a3, .int a4] D (tyl C) (mw C A) X0 u sz (fun u' => IM u' ∧ Un [(33, 33)] [(16, 16), (17, 17)] [] u u' ∧ True) := by
  refine mV (by decide) (Nat.le_of_ble_eq_true rfl) ?_
  intro p e s m below meth c ls ar Q hx hb hml hown hts hK hH hX hl hret
  have hown : s.vm.findClass RX10 = some m.cls := hown
  have hl : lv_has ls 7 [(0, .ref (A 0)), (1, .int a0), (2, .int 0), (3, .int a2), (4, .int a3), (5, .int a4)] := hl
  refine lv_iload_n hx hb dX10_roundFrom_0 rfl (lv_at hl 3 rfl) ?_
  refine lv_if_ne (tgt := 50) hx hb dX10_roundFrom_1 (by decide) (fun c1 => ?_) (fun c1 => ?_)
  · have c1 := cNE (x := a2) (y := 0) (X := A2) (Y := 0) ha2 (by decide) c1
    refine lv_iconst (v := 0) hx hb dX10_roundFrom_50 (by decide) ?_
    refine lv_istore (lv' := [(6, .int 0), (0, .ref (A 0)), (1, .int a0), (2, .int 0), (3, .int a2), (4, .int a3), (5, .int a4)]) hx hb dX10_roundFrom_51 hl (by decide) rfl (fun ls hl => ?_)
    have lp53_149 : ∀ (n53 : Nat) (ls : Array Slot) (y148d : Int32) (u149 : St) (H : Heap) (locs : List Loc), 0 ≤ y148d.toInt → y148d.toInt ≤ 6 → 6 - y148d.toInt < (n53 : Int) → Un [(33, 33)] [(16, 16), (17, 17)] [] u u149 → IM u149 → Hd D (mw C A) (va_A (mw C A u) s.heap.size) s.heap u149 H locs → lv_has ls 7 [(6, .int y148d), (0, .ref (A 0)), (1, .int a0), (2, .int 0), (3, .int a2), (4, .int a3), (5, .int a4)] → W p l e (rmL 8 0 0) s m ar below meth c H locs 0 0 Q (F0 m 53 ls []) := by
      intro n53
      induction n53 with
      | zero => intro ls y148d u149 H locs ly148d my148d hmun53 hUu149 hI hH hl; exfalso; omega
      | succ n53 ih53_149 =>
        intro ls y148d u149 H locs ly148d my148d hmun53 hUu149 hI hH hl
        refine lv_iload hx hb dX10_roundFrom_53 (lv_at hl 0 rfl) ?_
        refine lv_aload_n hx hb dX10_roundFrom_55 rfl (lv_at hl 1 rfl) ?_
        refine cvS (n := 0) (As := []) (rest := [.int y148d]) ⟨hx, hb, hml, hown, hts⟩ uc_in (kX10_clocks_0 l D C A u149 hI ) q_m1464 q_n1466 q_p72 q_i11 q_c1467 hvX10_clocks ⟨(Nat.le_of_ble_eq_true rfl), (Nat.le_of_ble_eq_true rfl)⟩ ⟨(Nat.le_of_ble_eq_true rfl), (Nat.le_of_ble_eq_true rfl)⟩ hK hH.1 10 0 rfl (mwc0 C A u149) rfl hl.1 rfl (Nat.le_of_ble_eq_true rfl) dX10_roundFrom_56 (fun r151 p152 => ?_)
        subst p152
        have b153 : 0 ≤ ((ga u149 7 3)).toInt ∧ ((ga u149 7 3)).toInt ≤ 6 := hI.has 3
        refine lv_icmp_ge (tgt := 124) hx hb dX10_roundFrom_59 (by decide) (fun c154 => ?_) (fun c154 => ?_)
        · have c154 := cLE (x := (ga u149 7 3)) (y := y148d) (X := ((ga u149 7 3)).toInt) (Y := y148d.toInt) rfl rfl c154
          exact hret _ _ _ _ _ dX10_roundFrom_124 ⟨hI, (Un.tr Un.rf hUu149 rfl rfl rfl), trivial⟩ hH
        · have c154 := cNLE (x := (ga u149 7 3)) (y := y148d) (X := ((ga u149 7 3)).toInt) (Y := y148d.toInt) rfl rfl c154
          refine lv_iload_n hx hb dX10_roundFrom_62 rfl (lv_at hl 4 rfl) ?_
          refine lv_iload hx hb dX10_roundFrom_63 (lv_at hl 0 rfl) ?_
          refine csS (n := 2) (As := [.int a2, .int y148d]) (rest := []) ⟨hx, hb, hml, hown, hts⟩ uc_in (kX10_isBit_0 l D C A u149 hI a2 A2 ha2 y148d y148d.toInt rfl) q_m1489 q_s1490 q_i11 q_c1491 hvX10_isBit ⟨(Nat.le_of_ble_eq_true rfl), (Nat.le_of_ble_eq_true rfl)⟩ ⟨(Nat.le_of_ble_eq_true rfl), (Nat.le_of_ble_eq_true rfl)⟩ hK hH.1 rfl hl.1 rfl (Nat.le_of_ble_eq_true rfl) dX10_roundFrom_65 (fun r155 p156 => ?_)
          rcases p156 with ⟨e9, f157⟩ | ⟨e9, -⟩
          · subst e9
            refine lv_if_ne (tgt := 74) hx hb dX10_roundFrom_68 (by decide) (fun c158 => ?_) (fun c158 => absurd c158 (by decide))
            refine lv_aload_n hx hb dX10_roundFrom_74 rfl (lv_at hl 1 rfl) ?_
            refine va_get (ci := 10) (v := .ref (A 16)) (C := RX10) (T := TX10) (N := 42) hx hb hts (fun w h => uc_in w (inX10 w h)) hown hK hH.1 0 (mwc0 C A u149) rfl 31 (by decide) (hts _ (uc_in _ q_f1219)) (fun _ h9 => h9) rfl dX10_roundFrom_75 ?_
            refine lv_iload_n hx hb dX10_roundFrom_78 rfl (lv_at hl 3 rfl) ?_
            refine lv_iload hx hb dX10_roundFrom_79 (lv_at hl 0 rfl) ?_
            refine r_iast (j := 16) hx hb hK hH 16 1 (mwc16 C A u149) rfl (i_ix (X := 0) (by decide) (by decide) (by decide)) (mwa16 C A u149) dX10_roundFrom_81 (fun u159 eu159 H locs hH => ?_)
            have hI := hI.pa0 eu159 (by decide) (by decide) (by decide)
            refine lv_aload_n hx hb dX10_roundFrom_82 rfl (lv_at hl 1 rfl) ?_
            refine lv_iload_n hx hb dX10_roundFrom_83 rfl (lv_at hl 2 rfl) ?_
            refine lv_iload_n hx hb dX10_roundFrom_84 rfl (lv_at hl 3 rfl) ?_
            refine lv_iconst (v := 1) hx hb dX10_roundFrom_85 (by decide) ?_
            refine lv_iadd hx hb dX10_roundFrom_86 ?_
            refine pv_i (v := 1) (by decide) ?_
            refine lv_iload_n hx hb dX10_roundFrom_87 rfl (lv_at hl 4 rfl) ?_
            refine lv_iconst (v := 1) hx hb dX10_roundFrom_88 (by decide) ?_
            refine lv_iload hx hb dX10_roundFrom_89 (lv_at hl 0 rfl) ?_
            refine lv_ishl hx hb dX10_roundFrom_91 ?_
            refine lv_topi (fun z160 ez160 => ?_)
            refine lv_iconst (v := (-1)) hx hb dX10_roundFrom_92 (by decide) ?_
            refine lv_ixor hx hb dX10_roundFrom_93 ?_
            refine lv_topi (fun z161 ez161 => ?_)
            refine lv_iand hx hb dX10_roundFrom_94 ?_
            refine lv_topi (fun z162 ez162 => ?_)
            refine lv_aload_n hx hb dX10_roundFrom_95 rfl (lv_at hl 1 rfl) ?_
            refine va_get (ci := 10) (v := .ref (A 8)) (C := RX10) (T := TX10) (N := 42) hx hb hts (fun w h => uc_in w (inX10 w h)) hown hK hH.1 0 (mwc0 C A u159) rfl 18 (by decide) (hts _ (uc_in _ q_f1206)) (fun _ h9 => h9) rfl dX10_roundFrom_96 ?_
            refine lv_iconst (v := 5) hx hb dX10_roundFrom_99 (by decide) ?_
            refine lv_iload hx hb dX10_roundFrom_100 (lv_at hl 0 rfl) ?_
            refine lv_imul hx hb dX10_roundFrom_102 ?_
            refine p_nm (tt_mul (X := 5) (Y := y148d.toInt) (by decide) rfl (by omega) (by omega)) (fun z163 hz163 => ?_)
            refine va_iald hx hb hK hH.1 8 1 (mwc8 C A u159) rfl (i_ix hz163 (by omega) (by omega)) dX10_roundFrom_103 ?_
            refine p_any (fun z164 => ?_)
            refine lv_aload_n hx hb dX10_roundFrom_104 rfl (lv_at hl 1 rfl) ?_
            refine lv_iload_n hx hb dX10_roundFrom_105 rfl (lv_at hl 2 rfl) ?_
            refine lv_iload hx hb dX10_roundFrom_106 (lv_at hl 5 rfl) ?_
            refine lv_iload hx hb dX10_roundFrom_108 (lv_at hl 6 rfl) ?_
            refine lv_iload hx hb dX10_roundFrom_110 (lv_at hl 0 rfl) ?_
            refine cvS (n := 4) (As := [.int a0, .int a3, .int a4, .int y148d]) (rest := [.int z164, .int z162, .int 1, .int a0, .ref (A 0)]) ⟨hx, hb, hml, hown, hts⟩ uc_in (kX10_hears_0 l D C A u159 hI a0 A0 ha0 a3 A3 ha3 a4 A4 ha4 y148d y148d.toInt rfl (by omega) (by omega) (by omega) (by omega)) q_m1723 q_n1725 q_p98 q_i11 q_c1726 hvX10_hears ⟨(Nat.le_of_ble_eq_true rfl), (Nat.le_of_ble_eq_true rfl)⟩ ⟨(Nat.le_of_ble_eq_true rfl), (Nat.le_of_ble_eq_true rfl)⟩ hK hH.1 10 0 rfl (mwc0 C A u159) rfl hl.1 rfl (Nat.le_of_ble_eq_true rfl) dX10_roundFrom_112 (fun r165 p166 => ?_)
            have g167 : PCk z162 5 := by rw [ez162, ez161, ez160]; exact PC_step rfl (by omega) (by omega) f157 hpc
            have bg167 := PC_bd g167
            refine cvU (n := 5) (As := [.int a0, .int 1, .int z162, .int z164, .int r165]) (rest := []) ⟨hx, hb, hml, hown, hts⟩ uc_in (kX10_roundFrom_1 l D C A u159 hI a0 A0 ha0 z162 z162.toInt rfl z164 z164.toInt rfl r165 r165.toInt rfl (by omega) (by omega) (by omega) (by omega) g167 _) q_m1719 q_n1721 q_p97 q_i11 q_c1722 hvX10_roundFrom ⟨(Nat.le_of_ble_eq_true rfl), (Nat.le_of_ble_eq_true rfl)⟩ ⟨(Nat.le_of_ble_eq_true rfl), (Nat.le_of_ble_eq_true rfl)⟩ hK hH (fun q h => Or.inr h) Bl0 (fun _ _ _ => trivial) 10 0 rfl (mwc0 C A u159) rfl hl.1 rfl (Nat.le_of_ble_eq_true rfl) dX10_roundFrom_115 (fun u168 H locs p170 hH => ?_)
            obtain ⟨hI, hUu168, p170⟩ := p170
            obtain ⟨z171, ez171⟩ : ∃ z, z = y148d + Int32.ofInt 1 := ⟨_, rfl⟩
            have hz171 : z171.toInt = y148d.toInt + 1 := by rw [ez171]; exact tt_add rfl (by decide) (by omega) (by omega)
            refine lv_iinc (v := z171) (lv' := [(6, .int z171), (0, .ref (A 0)), (1, .int a0), (2, .int 0), (3, .int a2), (4, .int a3), (5, .int a4)]) hx hb dX10_roundFrom_118 hl (k := 0) rfl ez171.symm (by decide) rfl (fun ls hl => ?_)
            refine lv_goto (tgt := 53) hx hb dX10_roundFrom_121 (by decide) ?_
            exact ih53_149 ls z171 u168 _ _ (by have q9 := (show z171.toInt = (y148d.toInt + 1) from hz171); omega) (by have q9 := (show z171.toInt = (y148d.toInt + 1) from hz171); omega) (by have q9 := (show z171.toInt = (y148d.toInt + 1) from hz171); omega) (Un.tr (Un.sa hUu149 rfl eu159) hUu168 rfl rfl rfl) hI hH hl
          · subst e9
            refine lv_if_ne (tgt := 74) hx hb dX10_roundFrom_68 (by decide) (fun c172 => absurd c172 (by decide)) (fun c172 => ?_)
            refine lv_goto (tgt := 118) hx hb dX10_roundFrom_71 (by decide) ?_
            obtain ⟨z173, ez173⟩ : ∃ z, z = y148d + Int32.ofInt 1 := ⟨_, rfl⟩
            have hz173 : z173.toInt = y148d.toInt + 1 := by rw [ez173]; exact tt_add rfl (by decide) (by omega) (by omega)
            refine lv_iinc (v := z173) (lv' := [(6, .int z173), (0, .ref (A 0)), (1, .int a0), (2, .int 0), (3, .int a2), (4, .int a3), (5, .int a4)]) hx hb dX10_roundFrom_118 hl (k := 0) rfl ez173.symm (by decide) rfl (fun ls hl => ?_)
            refine lv_goto (tgt := 53) hx hb dX10_roundFrom_121 (by decide) ?_
            exact ih53_149 ls z173 u149 _ _ (by have q9 := (show z173.toInt = (y148d.toInt + 1) from hz173); omega) (by have q9 := (show z173.toInt = (y148d.toInt + 1) from hz173); omega) (by have q9 := (show z173.toInt = (y148d.toInt + 1) from hz173); omega) hUu149 hI hH hl
    exact lp53_149 7 ls 0 u _ _ (by decide) (by decide) (by have q9 : (0 : Int32).toInt = 0 := (by decide); omega) Un.rf hI hH hl
  · have c1 := cEQ (x := a2) (y := 0) (X := A2) (Y := 0) ha2 (by decide) c1
    refine lv_iload hx hb dX10_roundFrom_4 (lv_at hl 5 rfl) ?_
    refine lv_aload_n hx hb dX10_roundFrom_6 rfl (lv_at hl 0 rfl) ?_
    refine va_get (ci := 10) (v := .int (gi u 33)) (C := RX10) (T := TX10) (N := 42) hx hb hts (fun w h => uc_in w (inX10 w h)) hown hK hH.1 0 (mwc0 C A u) rfl 33 (by decide) (hts _ (uc_in _ q_f1221)) (fun _ h9 => h9) rfl dX10_roundFrom_7 ?_
    refine lv_icmp_lt (tgt := 14) hx hb dX10_roundFrom_10 (by decide) (fun c174 => ?_) (fun c174 => ?_)
    · have c174 := cLT (x := a4) (y := (gi u 33)) (X := A4) (Y := ((gi u 33)).toInt) ha4 rfl c174
      refine lv_aload_n hx hb dX10_roundFrom_14 rfl (lv_at hl 0 rfl) ?_
      refine lv_iload hx hb dX10_roundFrom_15 (lv_at hl 5 rfl) ?_
      refine r_put (j := 33) (ci := 10) (C := RX10) (T := TX10) (N := 42) hx hb hts (fun w h => uc_in w (inX10 w h)) tyX10 tyX10_ok nmX10 hown hK hH 0 (mwc0 C A u) rfl 33 (by decide) (hts _ (uc_in _ q_f1221)) (fun _ h9 => h9) rfl (by decide +kernel) (Nat.le_of_ble_eq_true rfl) (mws33 C A u _) dX10_roundFrom_17 (fun u175 eu175 H locs hH => ?_)
      have hI := hI.pi0 eu175 rfl
      refine lv_iconst (v := 0) hx hb dX10_roundFrom_20 (by decide) ?_
      refine lv_istore (lv' := [(6, .int 0), (0, .ref (A 0)), (1, .int a0), (2, .int 0), (3, .int a2), (4, .int a3), (5, .int a4)]) hx hb dX10_roundFrom_21 hl (by decide) rfl (fun ls hl => ?_)
      refine lv_iload hx hb dX10_roundFrom_23 (lv_at hl 0 rfl) ?_
      refine lv_iload_n hx hb dX10_roundFrom_25 rfl (lv_at hl 3 rfl) ?_
      refine lv_icmp_ge (tgt := 49) hx hb dX10_roundFrom_26 (by decide) (fun c177 => ?_) (fun c177 => absurd c177 (by decide))
      exact hret _ _ _ _ _ dX10_roundFrom_49 ⟨hI, (Un.si Un.rf rfl eu175), trivial⟩ hH
    · have c174 := cNLT (x := a4) (y := (gi u 33)) (X := A4) (Y := ((gi u 33)).toInt) ha4 rfl c174
      exact hret _ _ _ _ _ dX10_roundFrom_13 ⟨hI, Un.rf, trivial⟩ hH
set_option maxHeartbeats 4000000 in
set_option maxRecDepth 100000 in
theorem kX10_roundOf_0 (l : Launch) (D : va_G) (C : Nat → ClassId) (A : Nat → Nat) (u : St) (hI : IM u) (a0 : Int32) (A0 : Int) (ha0 : a0.toInt = A0) (a1 : Int32) (A1 : Int) (ha1 : a1.toInt = A1) (hl0 : 0 ≤ A0) (hm0 : A0 ≤ 6) (sz : Nat) : MetI l yX10_roundOf cX10_roundOf 3 (some .int) 9 [.ref (A 0), .int a0, .int a1] D (tyl C) (mw C A) X0 u sz (fun r u' => IM u' ∧ Un [(33, 33)] [(16, 16), (17, 17)] [] u u' ∧ (True)) := by
  refine mI (by decide) (Nat.le_of_ble_eq_true rfl) ?_
  intro p e s m below meth c ls ar Q hx hb hml hown hts hK hH hX hl hret
  have hown : s.vm.findClass RX10 = some m.cls := hown
  have hl : lv_has ls 3 [(0, .ref (A 0)), (1, .int a0), (2, .int a1)] := hl
  refine lv_aload_n hx hb dX10_roundOf_0 rfl (lv_at hl 0 rfl) ?_
  refine lv_ldc (v := 100000) hx hb hown (hts _ (uc_in _ q_k1381)) dX10_roundOf_1 ?_
  refine r_put (j := 33) (ci := 10) (C := RX10) (T := TX10) (N := 42) hx hb hts (fun w h => uc_in w (inX10 w h)) tyX10 tyX10_ok nmX10 hown hK hH 0 (mwc0 C A u) rfl 33 (by decide) (hts _ (uc_in _ q_f1221)) (fun _ h9 => h9) rfl (by decide +kernel) (Nat.le_of_ble_eq_true rfl) (mws33 C A u _) dX10_roundOf_3 (fun u1 eu1 H locs hH => ?_)
  have hI := hI.pi0 eu1 rfl
  refine lv_aload_n hx hb dX10_roundOf_6 rfl (lv_at hl 0 rfl) ?_
  refine lv_iload_n hx hb dX10_roundOf_7 rfl (lv_at hl 1 rfl) ?_
  refine lv_iconst (v := 0) hx hb dX10_roundOf_8 (by decide) ?_
  refine lv_aload_n hx hb dX10_roundOf_9 rfl (lv_at hl 0 rfl) ?_
  refine lv_iload_n hx hb dX10_roundOf_10 rfl (lv_at hl 1 rfl) ?_
  refine cvS (n := 1) (As := [.int a0]) (rest := [.int 0, .int a0, .ref (A 0)]) ⟨hx, hb, hml, hown, hts⟩ uc_in (kX10_countsOf_0 l D C A u1 hI a0 A0 ha0 (by omega) (by omega)) q_m1500 q_n1502 q_p78 q_i11 q_c1503 hvX10_countsOf ⟨(Nat.le_of_ble_eq_true rfl), (Nat.le_of_ble_eq_true rfl)⟩ ⟨(Nat.le_of_ble_eq_true rfl), (Nat.le_of_ble_eq_true rfl)⟩ hK hH.1 10 0 rfl (mwc0 C A u1) rfl hl.1 rfl (Nat.le_of_ble_eq_true rfl) dX10_roundOf_11 (fun r2 p3 => ?_)
  have g4 : (ga u1 7 3).toInt ≤ 6 := (hI.has 3).2
  have br2 : 0 ≤ r2.toInt ∧ r2.toInt ≤ 63 := ⟨p3.1, p3.2.1⟩
  refine lv_iload_n hx hb dX10_roundOf_14 rfl (lv_at hl 2 rfl) ?_
  refine lv_iconst (v := 0) hx hb dX10_roundOf_15 (by decide) ?_
  refine cvU (n := 5) (As := [.int a0, .int 0, .int r2, .int a1, .int 0]) (rest := []) ⟨hx, hb, hml, hown, hts⟩ uc_in (kX10_roundFrom_0 l D C A u1 hI a0 A0 ha0 r2 r2.toInt rfl a1 A1 ha1 (0) 0 (by decide) (by omega) (by omega) (by omega) (by omega) (PC_of rfl (by omega) (by omega)) _) q_m1719 q_n1721 q_p97 q_i11 q_c1722 hvX10_roundFrom ⟨(Nat.le_of_ble_eq_true rfl), (Nat.le_of_ble_eq_true rfl)⟩ ⟨(Nat.le_of_ble_eq_true rfl), (Nat.le_of_ble_eq_true rfl)⟩ hK hH (fun q h => Or.inr h) Bl0 (fun _ _ _ => trivial) 10 0 rfl (mwc0 C A u1) rfl hl.1 rfl (Nat.le_of_ble_eq_true rfl) dX10_roundOf_16 (fun u5 H locs p7 hH => ?_)
  obtain ⟨hI, hUu5, p7⟩ := p7
  refine lv_aload_n hx hb dX10_roundOf_19 rfl (lv_at hl 0 rfl) ?_
  refine va_get (ci := 10) (v := .int (gi u5 33)) (C := RX10) (T := TX10) (N := 42) hx hb hts (fun w h => uc_in w (inX10 w h)) hown hK hH.1 0 (mwc0 C A u5) rfl 33 (by decide) (hts _ (uc_in _ q_f1221)) (fun _ h9 => h9) rfl dX10_roundOf_20 ?_
  refine lv_sipush (v := 10000) hx hb dX10_roundOf_23 (by decide) ?_
  refine lv_icmp_lt (tgt := 35) hx hb dX10_roundOf_26 (by decide) (fun c8 => ?_) (fun c8 => ?_)
  · have c8 := cLT (x := (gi u5 33)) (y := 10000) (X := ((gi u5 33)).toInt) (Y := 10000) rfl (by decide) c8
    refine lv_aload_n hx hb dX10_roundOf_35 rfl (lv_at hl 0 rfl) ?_
    refine va_get (ci := 10) (v := .int (gi u5 33)) (C := RX10) (T := TX10) (N := 42) hx hb hts (fun w h => uc_in w (inX10 w h)) hown hK hH.1 0 (mwc0 C A u5) rfl 33 (by decide) (hts _ (uc_in _ q_f1221)) (fun _ h9 => h9) rfl dX10_roundOf_36 ?_
    exact hret _ _ _ _ (gi u5 33) _ dX10_roundOf_39 rfl ⟨hI, (Un.tr (Un.si Un.rf rfl eu1) hUu5 rfl rfl rfl), trivial⟩ hH
  · have c8 := cNLT (x := (gi u5 33)) (y := 10000) (X := ((gi u5 33)).toInt) (Y := 10000) rfl (by decide) c8
    refine lv_sipush (v := 10000) hx hb dX10_roundOf_29 (by decide) ?_
    refine lv_goto (tgt := 39) hx hb dX10_roundOf_32 (by decide) ?_
    exact hret _ _ _ _ (10000 : Int32) _ dX10_roundOf_39 rfl ⟨hI, (Un.tr (Un.si Un.rf rfl eu1) hUu5 rfl rfl rfl), trivial⟩ hH
set_option maxHeartbeats 4000000 in
set_option maxRecDepth 100000 in
theorem kX10_lodge_0 (l : Launch) (D : va_G) (C : Nat → ClassId) (A : Nat → Nat) (u : St) (hI : IM u) (a0 : Int32) (A0 : Int) (ha0 : a0.toInt = A0) (sz : Nat) : MetI l yX10_lodge cX10_lodge 6 (some .int) 10 [.ref (A 0), .int a0] D (tyl C) (mw C A) X0 u sz (fun r u' => IM u' ∧ Un [(0, 0), (24, 24), (25, 25), (33, 33)] [(12, 12), (13, 13), (16, 16), (17, 17)] [] u u' ∧ ((-2) ≤ r.toInt ∧ r.toInt ≤ 30)) := by
  refine mI (by decide) (Nat.le_of_ble_eq_true rfl) ?_
  intro p e s m below meth c ls ar Q hx hb hml hown hts hK hH hX hl hret
  have hown : s.vm.findClass RX10 = some m.cls := hown
  have hl : lv_has ls 6 [(0, .ref (A 0)), (1, .int a0)] := hl
  refine lv_aload_n hx hb dX10_lodge_0 rfl (lv_at hl 0 rfl) ?_
  refine lv_iconst (v := 0) hx hb dX10_lodge_1 (by decide) ?_
  refine r_put (j := 0) (ci := 10) (C := RX10) (T := TX10) (N := 42) hx hb hts (fun w h => uc_in w (inX10 w h)) tyX10 tyX10_ok nmX10 hown hK hH 0 (mwc0 C A u) rfl 0 (by decide) (hts _ (uc_in _ q_f1188)) (fun _ h9 => h9) rfl (by decide +kernel) (Nat.le_of_ble_eq_true rfl) (mws0 C A u _) dX10_lodge_2 (fun u1 eu1 H locs hH => ?_)
  have hI := hI.pi0 eu1 rfl
  refine lv_aload_n hx hb dX10_lodge_5 rfl (lv_at hl 0 rfl) ?_
  refine lv_iload_n hx hb dX10_lodge_6 rfl (lv_at hl 1 rfl) ?_
  refine lv_i2l (v := a0.toInt64) hx hb dX10_lodge_7 rfl ?_
  refine cvS (n := 1) (As := [.long a0.toInt64]) (rest := []) ⟨hx, hb, hml, hown, hts⟩ uc_in (kX10_isDay_0 l D C A u1 hI a0.toInt64 A0 (tt_i2l ha0)) q_m1473 q_n1475 q_p73 q_i11 q_c1476 hvX10_isDay ⟨(Nat.le_of_ble_eq_true rfl), (Nat.le_of_ble_eq_true rfl)⟩ ⟨(Nat.le_of_ble_eq_true rfl), (Nat.le_of_ble_eq_true rfl)⟩ hK hH.1 10 0 rfl (mwc0 C A u1) rfl hl.1 rfl (Nat.le_of_ble_eq_true rfl) dX10_lodge_8 (fun r2 p3 => ?_)
  rcases p3 with ⟨e9, f4, f5⟩ | e9
  · subst e9
    have b7 : 0 ≤ ((ga u1 7 0)).toInt ∧ ((ga u1 7 0)).toInt ≤ 7 := hI.has 0
    refine lv_if_ne (tgt := 17) hx hb dX10_lodge_11 (by decide) (fun c8 => ?_) (fun c8 => absurd c8 (by decide))
    refine lv_aload_n hx hb dX10_lodge_17 rfl (lv_at hl 0 rfl) ?_
    refine cvU (n := 0) (As := []) (rest := []) ⟨hx, hb, hml, hown, hts⟩ uc_in (kX10_lays_0 l D C A u1 hI  _) q_m1481 q_n1483 q_p75 q_i11 q_c1484 hvX10_lays ⟨(Nat.le_of_ble_eq_true rfl), (Nat.le_of_ble_eq_true rfl)⟩ ⟨(Nat.le_of_ble_eq_true rfl), (Nat.le_of_ble_eq_true rfl)⟩ hK hH (fun q h => Or.inr h) Bl0 (fun _ _ _ => trivial) 10 0 rfl (mwc0 C A u1) rfl hl.1 rfl (Nat.le_of_ble_eq_true rfl) dX10_lodge_18 (fun u9 H locs p11 hH => ?_)
    obtain ⟨hI, hUu9, p11⟩ := p11
    refine lv_iconst (v := 0) hx hb dX10_lodge_21 (by decide) ?_
    refine lv_istore_n (lv' := [(2, .int 0), (0, .ref (A 0)), (1, .int a0)]) hx hb dX10_lodge_22 rfl hl (by decide) rfl (fun ls hl => ?_)
    refine lv_aload_n hx hb dX10_lodge_23 rfl (lv_at hl 1 rfl) ?_
    refine lv_iload_n hx hb dX10_lodge_24 rfl (lv_at hl 2 rfl) ?_
    refine lv_iconst (v := 0) hx hb dX10_lodge_25 (by decide) ?_
    refine cvI (n := 2) (As := [.int a0, .int 0]) (rest := []) ⟨hx, hb, hml, hown, hts⟩ uc_in (kX10_roundOf_0 l D C A u9 hI a0 A0 ha0 (0) 0 (by decide) (by omega) (by omega) _) q_m1715 q_n1717 q_p96 q_i11 q_c1718 hvX10_roundOf ⟨(Nat.le_of_ble_eq_true rfl), (Nat.le_of_ble_eq_true rfl)⟩ ⟨(Nat.le_of_ble_eq_true rfl), (Nat.le_of_ble_eq_true rfl)⟩ hK hH (fun q h => Or.inr h) Bl0 (fun _ _ _ => trivial) 10 0 rfl (mwc0 C A u9) rfl hl.1 rfl (Nat.le_of_ble_eq_true rfl) dX10_lodge_26 (fun r13 u12 H locs p14 hH => ?_)
    obtain ⟨hI, hUu12, p14⟩ := p14
    refine lv_istore_n (lv' := [(3, .int r13), (2, .int 0), (0, .ref (A 0)), (1, .int a0)]) hx hb dX10_lodge_29 rfl hl (by decide) rfl (fun ls hl => ?_)
    refine lv_iconst (v := 1) hx hb dX10_lodge_30 (by decide) ?_
    refine lv_istore (lv' := [(4, .int 1), (3, .int r13), (2, .int 0), (0, .ref (A 0)), (1, .int a0)]) hx hb dX10_lodge_31 hl (by decide) rfl (fun ls hl => ?_)
    have lp33_156 : ∀ (n33 : Nat) (ls : Array Slot) (y153d : Int32) (y154d : Int32) (y155d : Int32) (u156 : St) (H : Heap) (locs : List Loc), 1 ≤ y153d.toInt → y153d.toInt ≤ 10 → 0 ≤ y155d.toInt → y155d.toInt ≤ 30 → 10 - y153d.toInt < (n33 : Int) → Un [(33, 33)] [(16, 16), (17, 17)] [] u12 u156 → IM u156 → Hd D (mw C A) (va_A (mw C A u) s.heap.size) s.heap u156 H locs → lv_has ls 6 [(4, .int y153d), (3, .int y154d), (2, .int y155d), (0, .ref (A 0)), (1, .int a0)] → W p l e (rmL 10 0 0) s m ar below meth c H locs 0 0 Q (F0 m 33 ls []) := by
      intro n33
      induction n33 with
      | zero => intro ls y153d y154d y155d u156 H locs ly153d my153d ly155d my155d hmun33 hUu156 hI hH hl; exfalso; omega
      | succ n33 ih33_156 =>
        intro ls y153d y154d y155d u156 H locs ly153d my153d ly155d my155d hmun33 hUu156 hI hH hl
        refine lv_iload hx hb dX10_lodge_33 (lv_at hl 0 rfl) ?_
        refine lv_bipush (v := 10) hx hb dX10_lodge_35 (by decide) ?_
        refine lv_icmp_ge (tgt := 70) hx hb dX10_lodge_37 (by decide) (fun c158 => ?_) (fun c158 => ?_)
        · have c158 := cLE (x := 10) (y := y153d) (X := 10) (Y := y153d.toInt) (by decide) rfl c158
          refine lv_iload_n hx hb dX10_lodge_70 rfl (lv_at hl 2 rfl) ?_
          exact hret _ _ _ _ y155d _ dX10_lodge_71 rfl ⟨hI, (Un.tr (Un.tr (Un.tr (Un.si Un.rf rfl eu1) hUu9 rfl rfl rfl) hUu12 rfl rfl rfl) hUu156 rfl rfl rfl), ⟨by omega, by omega⟩⟩ hH
        · have c158 := cNLE (x := 10) (y := y153d) (X := 10) (Y := y153d.toInt) (by decide) rfl c158
          refine lv_aload_n hx hb dX10_lodge_40 rfl (lv_at hl 3 rfl) ?_
          refine lv_iload_n hx hb dX10_lodge_41 rfl (lv_at hl 4 rfl) ?_
          refine lv_iload hx hb dX10_lodge_42 (lv_at hl 0 rfl) ?_
          refine cvI (n := 2) (As := [.int a0, .int y153d]) (rest := []) ⟨hx, hb, hml, hown, hts⟩ uc_in (kX10_roundOf_0 l D C A u156 hI a0 A0 ha0 y153d y153d.toInt rfl (by omega) (by omega) _) q_m1715 q_n1717 q_p96 q_i11 q_c1718 hvX10_roundOf ⟨(Nat.le_of_ble_eq_true rfl), (Nat.le_of_ble_eq_true rfl)⟩ ⟨(Nat.le_of_ble_eq_true rfl), (Nat.le_of_ble_eq_true rfl)⟩ hK hH (fun q h => Or.inr h) Bl0 (fun _ _ _ => trivial) 10 0 rfl (mwc0 C A u156) rfl hl.1 rfl (Nat.le_of_ble_eq_true rfl) dX10_lodge_44 (fun r160 u159 H locs p161 hH => ?_)
          obtain ⟨hI, hUu159, p161⟩ := p161
          refine lv_istore (lv' := [(5, .int r160), (4, .int y153d), (3, .int y154d), (2, .int y155d), (0, .ref (A 0)), (1, .int a0)]) hx hb dX10_lodge_47 hl (by decide) rfl (fun ls hl => ?_)
          refine lv_iload hx hb dX10_lodge_49 (lv_at hl 0 rfl) ?_
          refine lv_iload_n hx hb dX10_lodge_51 rfl (lv_at hl 2 rfl) ?_
          have j64_166 : ∀ (ls : Array Slot) (y163d : Int32) (y164d : Int32), 0 ≤ y164d.toInt → y164d.toInt ≤ 30 → lv_has ls 6 [(3, .int y163d), (2, .int y164d), (4, .int y153d), (0, .ref (A 0)), (1, .int a0)] → W p l e (rmL 10 0 0) s m ar below meth c H locs 0 0 Q (F0 m 64 ls []) := by
            intro ls y163d y164d ly164d my164d hl
            obtain ⟨z168, ez168⟩ : ∃ z, z = y153d + Int32.ofInt 1 := ⟨_, rfl⟩
            have hz168 : z168.toInt = y153d.toInt + 1 := by rw [ez168]; exact tt_add rfl (by decide) (by omega) (by omega)
            refine lv_iinc (v := z168) (lv' := [(4, .int z168), (3, .int y163d), (2, .int y164d), (0, .ref (A 0)), (1, .int a0)]) hx hb dX10_lodge_64 hl (k := 2) rfl ez168.symm (by decide) rfl (fun ls hl => ?_)
            refine lv_goto (tgt := 33) hx hb dX10_lodge_67 (by decide) ?_
            exact ih33_156 ls z168 y163d y164d u159 _ _ (by have q9 := (show z168.toInt = (y153d.toInt + 1) from hz168); omega) (by have q9 := (show z168.toInt = (y153d.toInt + 1) from hz168); omega) (by omega) (by omega) (by have q9 := (show z168.toInt = (y153d.toInt + 1) from hz168); omega) (Un.tr hUu156 hUu159 rfl rfl rfl) hI hH hl
          refine lv_icmp_lt (tgt := 58) hx hb dX10_lodge_52 (by decide) (fun c162 => ?_) (fun c162 => ?_)
          · have c162 := cLT (x := r160) (y := y154d) (X := r160.toInt) (Y := y154d.toInt) rfl rfl c162
            refine lv_iload hx hb dX10_lodge_58 (lv_at hl 1 rfl) ?_
            refine lv_istore_n (lv' := [(2, .int y153d), (5, .int r160), (4, .int y153d), (3, .int y154d), (0, .ref (A 0)), (1, .int a0)]) hx hb dX10_lodge_60 rfl hl (by decide) rfl (fun ls hl => ?_)
            refine lv_iload hx hb dX10_lodge_61 (lv_at hl 1 rfl) ?_
            refine lv_istore_n (lv' := [(3, .int r160), (2, .int y153d), (5, .int r160), (4, .int y153d), (0, .ref (A 0)), (1, .int a0)]) hx hb dX10_lodge_63 rfl hl (by decide) rfl (fun ls hl => ?_)
            exact j64_166 ls r160 y153d (by omega) (by omega) (lv_sub hl [0, 1, 3, 4, 5] rfl)
          · have c162 := cNLT (x := r160) (y := y154d) (X := r160.toInt) (Y := y154d.toInt) rfl rfl c162
            refine lv_goto (tgt := 64) hx hb dX10_lodge_55 (by decide) ?_
            exact j64_166 ls y154d y155d (by omega) (by omega) (lv_sub hl [2, 3, 1, 4, 5] rfl)
    exact lp33_156 10 ls 1 r13 0 u12 _ _ (by decide) (by decide) (by decide) (by decide) (by have q9 : (1 : Int32).toInt = 1 := (by decide); omega) Un.rf hI hH hl
  · subst e9
    refine lv_if_ne (tgt := 17) hx hb dX10_lodge_11 (by decide) (fun c169 => absurd c169 (by decide)) (fun c169 => ?_)
    refine lv_bipush (v := (-2)) hx hb dX10_lodge_14 (by decide) ?_
    exact hret _ _ _ _ ((-2) : Int32) _ dX10_lodge_16 rfl ⟨hI, (Un.si Un.rf rfl eu1), ⟨by decide, by decide⟩⟩ hH
set_option maxHeartbeats 4000000 in
set_option maxRecDepth 100000 in
theorem kX10_luck_0 (l : Launch) (D : va_G) (C : Nat → ClassId) (A : Nat → Nat) (u : St) (hI : IM u) (a0 : Int32) (A0 : Int) (ha0 : a0.toInt = A0) (a1 : Int32) (A1 : Int) (ha1 : a1.toInt = A1) (a2 : Int32) (A2 : Int) (ha2 : a2.toInt = A2) (a3 : Int32) (A3 : Int) (ha3 : a3.toInt = A3) (sz : Nat) : MetI l yX10_luck cX10_luck 7 (some .int) 5 [.ref (A 0), .int a0, .int a1, .int a2, .int a3] D (tyl C) (mw C A) X0 u sz (fun r u' => IM u' ∧ Un [(0, 0), (24, 24), (25, 25)] [(12, 12), (13, 13)] [] u u' ∧ (True)) := by
  refine mI (by decide) (Nat.le_of_ble_eq_true rfl) ?_
  intro p e s m below meth c ls ar Q hx hb hml hown hts hK hH hX hl hret
  have hown : s.vm.findClass RX10 = some m.cls := hown
  have hl : lv_has ls 7 [(0, .ref (A 0)), (1, .int a0), (2, .int a1), (3, .int a2), (4, .int a3)] := hl
  refine lv_aload_n hx hb dX10_luck_0 rfl (lv_at hl 0 rfl) ?_
  refine lv_iconst (v := 0) hx hb dX10_luck_1 (by decide) ?_
  refine r_put (j := 0) (ci := 10) (C := RX10) (T := TX10) (N := 42) hx hb hts (fun w h => uc_in w (inX10 w h)) tyX10 tyX10_ok nmX10 hown hK hH 0 (mwc0 C A u) rfl 0 (by decide) (hts _ (uc_in _ q_f1188)) (fun _ h9 => h9) rfl (by decide +kernel) (Nat.le_of_ble_eq_true rfl) (mws0 C A u _) dX10_luck_2 (fun u1 eu1 H locs hH => ?_)
  have hI := hI.pi0 eu1 rfl
  refine lv_iload_n hx hb dX10_luck_5 rfl (lv_at hl 1 rfl) ?_
  refine csS (n := 1) (As := [.int a0]) (rest := []) ⟨hx, hb, hml, hown, hts⟩ uc_in (kX10_isSeed_0 l D C A u1 hI a0 A0 ha0) q_m1849 q_s1850 q_i11 q_c1851 hvX10_isSeed ⟨(Nat.le_of_ble_eq_true rfl), (Nat.le_of_ble_eq_true rfl)⟩ ⟨(Nat.le_of_ble_eq_true rfl), (Nat.le_of_ble_eq_true rfl)⟩ hK hH.1 rfl hl.1 rfl (Nat.le_of_ble_eq_true rfl) dX10_luck_6 (fun r2 p3 => ?_)
  have p3 : 0 ≤ r2.toInt ∧ r2.toInt ≤ 1 := p3
  refine lv_if_eq (tgt := 43) hx hb dX10_luck_9 (by decide) (fun c4 => ?_) (fun c4 => ?_)
  · have c4 := cEQ (x := r2) (y := 0) (X := r2.toInt) (Y := 0) rfl (by decide) c4
    refine lv_bipush (v := (-2)) hx hb dX10_luck_43 (by decide) ?_
    exact hret _ _ _ _ ((-2) : Int32) _ dX10_luck_45 rfl ⟨hI, (Un.si Un.rf rfl eu1), trivial⟩ hH
  · have c4 := cNE (x := r2) (y := 0) (X := r2.toInt) (Y := 0) rfl (by decide) c4
    refine lv_iload_n hx hb dX10_luck_12 rfl (lv_at hl 2 rfl) ?_
    refine lv_i2l (v := a1.toInt64) hx hb dX10_luck_13 rfl ?_
    refine lv_lconst (v := 1) hx hb dX10_luck_14 (by decide) ?_
    refine lv_ldc2 (v := 20) hx hb hown (hts _ (uc_in _ q_k1866)) dX10_luck_15 ?_
    refine csS (n := 3) (As := [.long a1.toInt64, .long 1, .long 20]) (rest := []) ⟨hx, hb, hml, hown, hts⟩ uc_in (kX10_in_0 l D C A u1 hI a1.toInt64 A1 (tt_i2l ha1) (1) 1 (by decide) (20) 20 (by decide)) q_m1324 q_s1325 q_i11 q_c1326 hvX10_in ⟨(Nat.le_of_ble_eq_true rfl), (Nat.le_of_ble_eq_true rfl)⟩ ⟨(Nat.le_of_ble_eq_true rfl), (Nat.le_of_ble_eq_true rfl)⟩ hK hH.1 rfl hl.1 rfl (Nat.le_of_ble_eq_true rfl) dX10_luck_18 (fun r5 p6 => ?_)
    rcases p6 with ⟨e9, f7, f8⟩ | ⟨e9, fn9⟩
    · subst e9
      refine lv_if_eq (tgt := 43) hx hb dX10_luck_21 (by decide) (fun c10 => absurd c10 (by decide)) (fun c10 => ?_)
      refine lv_aload_n hx hb dX10_luck_24 rfl (lv_at hl 0 rfl) ?_
      refine lv_iload_n hx hb dX10_luck_25 rfl (lv_at hl 3 rfl) ?_
      refine lv_i2l (v := a2.toInt64) hx hb dX10_luck_26 rfl ?_
      refine cvS (n := 1) (As := [.long a2.toInt64]) (rest := []) ⟨hx, hb, hml, hown, hts⟩ uc_in (kX10_isClock_0 l D C A u1 hI a2.toInt64 A2 (tt_i2l ha2)) q_m1460 q_n1462 q_p71 q_i11 q_c1463 hvX10_isClock ⟨(Nat.le_of_ble_eq_true rfl), (Nat.le_of_ble_eq_true rfl)⟩ ⟨(Nat.le_of_ble_eq_true rfl), (Nat.le_of_ble_eq_true rfl)⟩ hK hH.1 10 0 rfl (mwc0 C A u1) rfl hl.1 rfl (Nat.le_of_ble_eq_true rfl) dX10_luck_27 (fun r11 p12 => ?_)
      rcases p12 with ⟨e9, f13, f14⟩ | e9
      · subst e9
        have b16 : 0 ≤ ((ga u1 7 3)).toInt ∧ ((ga u1 7 3)).toInt ≤ 6 := hI.has 3
        refine lv_if_eq (tgt := 43) hx hb dX10_luck_30 (by decide) (fun c17 => absurd c17 (by decide)) (fun c17 => ?_)
        refine lv_aload_n hx hb dX10_luck_33 rfl (lv_at hl 0 rfl) ?_
        refine lv_iload hx hb dX10_luck_34 (lv_at hl 4 rfl) ?_
        refine lv_i2l (v := a3.toInt64) hx hb dX10_luck_36 rfl ?_
        refine cvS (n := 1) (As := [.long a3.toInt64]) (rest := []) ⟨hx, hb, hml, hown, hts⟩ uc_in (kX10_isDay_0 l D C A u1 hI a3.toInt64 A3 (tt_i2l ha3)) q_m1473 q_n1475 q_p73 q_i11 q_c1476 hvX10_isDay ⟨(Nat.le_of_ble_eq_true rfl), (Nat.le_of_ble_eq_true rfl)⟩ ⟨(Nat.le_of_ble_eq_true rfl), (Nat.le_of_ble_eq_true rfl)⟩ hK hH.1 10 0 rfl (mwc0 C A u1) rfl hl.1 rfl (Nat.le_of_ble_eq_true rfl) dX10_luck_37 (fun r18 p19 => ?_)
        rcases p19 with ⟨e9, f20, f21⟩ | e9
        · subst e9
          have b23 : 0 ≤ ((ga u1 7 0)).toInt ∧ ((ga u1 7 0)).toInt ≤ 7 := hI.has 0
          refine lv_if_ne (tgt := 46) hx hb dX10_luck_40 (by decide) (fun c24 => ?_) (fun c24 => absurd c24 (by decide))
          refine lv_iconst (v := 0) hx hb dX10_luck_46 (by decide) ?_
          refine lv_istore (lv' := [(5, .int 0), (0, .ref (A 0)), (1, .int a0), (2, .int a1), (3, .int a2), (4, .int a3)]) hx hb dX10_luck_47 hl (by decide) rfl (fun ls hl => ?_)
          refine lv_iconst (v := 0) hx hb dX10_luck_49 (by decide) ?_
          refine lv_istore (lv' := [(6, .int 0), (5, .int 0), (0, .ref (A 0)), (1, .int a0), (2, .int a1), (3, .int a2), (4, .int a3)]) hx hb dX10_luck_50 hl (by decide) rfl (fun ls hl => ?_)
          have lp52_318 : ∀ (n52 : Nat) (ls : Array Slot) (y316d : Int32) (y317d : Int32) (u318 : St) (H : Heap) (locs : List Loc), 0 ≤ y316d.toInt → y316d.toInt ≤ 20 → 20 - y316d.toInt < (n52 : Int) → Un [(24, 24), (25, 25)] [(12, 12), (13, 13)] [] u1 u318 → IM u318 → Hd D (mw C A) (va_A (mw C A u) s.heap.size) s.heap u318 H locs → lv_has ls 7 [(6, .int y316d), (5, .int y317d), (0, .ref (A 0)), (1, .int a0), (2, .int a1), (3, .int a2), (4, .int a3)] → W p l e (rmL 5 0 0) s m ar below meth c H locs 0 0 Q (F0 m 52 ls []) := by
            intro n52
            induction n52 with
            | zero => intro ls y316d y317d u318 H locs ly316d my316d hmun52 hUu318 hI hH hl; exfalso; omega
            | succ n52 ih52_318 =>
              intro ls y316d y317d u318 H locs ly316d my316d hmun52 hUu318 hI hH hl
              refine lv_iload hx hb dX10_luck_52 (lv_at hl 0 rfl) ?_
              refine lv_iload_n hx hb dX10_luck_54 rfl (lv_at hl 4 rfl) ?_
              refine lv_icmp_ge (tgt := 101) hx hb dX10_luck_55 (by decide) (fun c320 => ?_) (fun c320 => ?_)
              · have c320 := cLE (x := a1) (y := y316d) (X := A1) (Y := y316d.toInt) ha1 rfl c320
                refine lv_iload hx hb dX10_luck_101 (lv_at hl 1 rfl) ?_
                exact hret _ _ _ _ y317d _ dX10_luck_103 rfl ⟨hI, (Un.tr (Un.si Un.rf rfl eu1) hUu318 rfl rfl rfl), trivial⟩ hH
              · have c320 := cNLE (x := a1) (y := y316d) (X := A1) (Y := y316d.toInt) ha1 rfl c320
                refine lv_aload_n hx hb dX10_luck_58 rfl (lv_at hl 2 rfl) ?_
                refine lv_iload_n hx hb dX10_luck_59 rfl (lv_at hl 3 rfl) ?_
                refine lv_i2l (v := a0.toInt64) hx hb dX10_luck_60 rfl ?_
                refine lv_iload hx hb dX10_luck_61 (lv_at hl 0 rfl) ?_
                refine lv_i2l (v := y316d.toInt64) hx hb dX10_luck_63 rfl ?_
                refine lv_ladd hx hb dX10_luck_64 ?_
                have b321 := i_rng (X := A0) ha0
                refine p_nml (tt_ladd (X := A0) (Y := y316d.toInt) (tt_i2l ha0) (tt_i2l rfl) (by omega) (by omega)) (fun z322 hz322 => ?_)
                refine cvI (n := 1) (As := [.long z322]) (rest := []) ⟨hx, hb, hml, hown, hts⟩ uc_in (kX10_draws_0 l D C A u318 hI z322 (A0 + y316d.toInt) hz322 _) q_m1853 q_n1855 q_p110 q_i11 q_c1856 hvX10_draws ⟨(Nat.le_of_ble_eq_true rfl), (Nat.le_of_ble_eq_true rfl)⟩ ⟨(Nat.le_of_ble_eq_true rfl), (Nat.le_of_ble_eq_true rfl)⟩ hK hH (fun q h => Or.inr h) Bl0 (fun _ _ _ => trivial) 10 0 rfl (mwc0 C A u318) rfl hl.1 rfl (Nat.le_of_ble_eq_true rfl) dX10_luck_65 (fun r324 u323 H locs p325 hH => ?_)
                obtain ⟨hI, hUu323, p325⟩ := p325
                refine lv_pop hx hb dX10_luck_68 rfl ?_
                refine lv_iload hx hb dX10_luck_69 (lv_at hl 1 rfl) ?_
                refine lv_aload_n hx hb dX10_luck_71 rfl (lv_at hl 2 rfl) ?_
                refine lv_iload hx hb dX10_luck_72 (lv_at hl 6 rfl) ?_
                refine lv_aload_n hx hb dX10_luck_74 rfl (lv_at hl 2 rfl) ?_
                refine lv_iload hx hb dX10_luck_75 (lv_at hl 6 rfl) ?_
                refine cvS (n := 1) (As := [.int a3]) (rest := [.int a3, .ref (A 0), .int y317d]) ⟨hx, hb, hml, hown, hts⟩ uc_in (kX10_countsOf_0 l D C A u323 hI a3 A3 ha3 (by omega) (by omega)) q_m1500 q_n1502 q_p78 q_i11 q_c1503 hvX10_countsOf ⟨(Nat.le_of_ble_eq_true rfl), (Nat.le_of_ble_eq_true rfl)⟩ ⟨(Nat.le_of_ble_eq_true rfl), (Nat.le_of_ble_eq_true rfl)⟩ hK hH.1 10 0 rfl (mwc0 C A u323) rfl hl.1 rfl (Nat.le_of_ble_eq_true rfl) dX10_luck_77 (fun r326 p327 => ?_)
                have g328 : (ga u323 7 3).toInt ≤ 6 := (hI.has 3).2
                have br326 : 0 ≤ r326.toInt ∧ r326.toInt ≤ 63 := ⟨p327.1, p327.2.1⟩
                refine cvS (n := 2) (As := [.int a3, .int r326]) (rest := [.int y317d]) ⟨hx, hb, hml, hown, hts⟩ uc_in (kX10_lastOf_0 l D C A u323 hI a3 A3 ha3 r326 r326.toInt rfl (by omega) (by omega)) q_m1508 q_n1510 q_p80 q_i11 q_c1511 hvX10_lastOf ⟨(Nat.le_of_ble_eq_true rfl), (Nat.le_of_ble_eq_true rfl)⟩ ⟨(Nat.le_of_ble_eq_true rfl), (Nat.le_of_ble_eq_true rfl)⟩ hK hH.1 10 0 rfl (mwc0 C A u323) rfl hl.1 rfl (Nat.le_of_ble_eq_true rfl) dX10_luck_80 (fun r329 p330 => ?_)
                have br329 : -1 ≤ r329.toInt ∧ r329.toInt ≤ 5 := ⟨p330.1, p330.2.1⟩
                refine lv_iload_n hx hb dX10_luck_83 rfl (lv_at hl 5 rfl) ?_
                have j92_335 : ∀ (ls : Array Slot) (y332d : Int32), 0 ≤ y332d.toInt → y332d.toInt ≤ 1 → lv_has ls 7 [(6, .int y316d), (0, .ref (A 0)), (1, .int a0), (2, .int a1), (3, .int a2), (4, .int a3)] → W p l e (rmL 5 0 0) s m ar below meth c H locs 0 0 Q (F0 m 92 ls [.int y332d, .int y317d]) := by
                  intro ls y332d ly332d my332d hl
                  refine lv_iadd hx hb dX10_luck_92 ?_
                  refine p_any (fun z337 => ?_)
                  refine lv_istore (lv' := [(5, .int z337), (6, .int y316d), (0, .ref (A 0)), (1, .int a0), (2, .int a1), (3, .int a2), (4, .int a3)]) hx hb dX10_luck_93 hl (by decide) rfl (fun ls hl => ?_)
                  obtain ⟨z338, ez338⟩ : ∃ z, z = y316d + Int32.ofInt 1 := ⟨_, rfl⟩
                  have hz338 : z338.toInt = y316d.toInt + 1 := by rw [ez338]; exact tt_add rfl (by decide) (by omega) (by omega)
                  refine lv_iinc (v := z338) (lv' := [(6, .int z338), (5, .int z337), (0, .ref (A 0)), (1, .int a0), (2, .int a1), (3, .int a2), (4, .int a3)]) hx hb dX10_luck_95 hl (k := 1) rfl ez338.symm (by decide) rfl (fun ls hl => ?_)
                  refine lv_goto (tgt := 52) hx hb dX10_luck_98 (by decide) ?_
                  exact ih52_318 ls z338 z337 u323 _ _ (by have q9 := (show z338.toInt = (y316d.toInt + 1) from hz338); omega) (by have q9 := (show z338.toInt = (y316d.toInt + 1) from hz338); omega) (by have q9 := (show z338.toInt = (y316d.toInt + 1) from hz338); omega) (Un.tr hUu318 hUu323 rfl rfl rfl) hI hH hl
                refine lv_icmp_ne (tgt := 91) hx hb dX10_luck_84 (by decide) (fun c331 => ?_) (fun c331 => ?_)
                · refine lv_iconst (v := 0) hx hb dX10_luck_91 (by decide) ?_
                  exact j92_335 ls 0 (by decide) (by decide) (lv_sub hl [0, 2, 3, 4, 5, 6] rfl)
                · have c331 := cEQ (x := r329) (y := a2) (X := r329.toInt) (Y := A2) rfl ha2 c331
                  refine lv_iconst (v := 1) hx hb dX10_luck_87 (by decide) ?_
                  refine lv_goto (tgt := 92) hx hb dX10_luck_88 (by decide) ?_
                  exact j92_335 ls 1 (by decide) (by decide) (lv_sub hl [0, 2, 3, 4, 5, 6] rfl)
          exact lp52_318 21 ls 0 0 u1 _ _ (by decide) (by decide) (by have q9 : (0 : Int32).toInt = 0 := (by decide); omega) Un.rf hI hH hl
        · subst e9
          refine lv_if_ne (tgt := 46) hx hb dX10_luck_40 (by decide) (fun c339 => absurd c339 (by decide)) (fun c339 => ?_)
          refine lv_bipush (v := (-2)) hx hb dX10_luck_43 (by decide) ?_
          exact hret _ _ _ _ ((-2) : Int32) _ dX10_luck_45 rfl ⟨hI, (Un.si Un.rf rfl eu1), trivial⟩ hH
      · subst e9
        refine lv_if_eq (tgt := 43) hx hb dX10_luck_30 (by decide) (fun c340 => ?_) (fun c340 => absurd c340 (by decide))
        refine lv_bipush (v := (-2)) hx hb dX10_luck_43 (by decide) ?_
        exact hret _ _ _ _ ((-2) : Int32) _ dX10_luck_45 rfl ⟨hI, (Un.si Un.rf rfl eu1), trivial⟩ hH
    · subst e9
      refine lv_if_eq (tgt := 43) hx hb dX10_luck_21 (by decide) (fun c341 => ?_) (fun c341 => absurd c341 (by decide))
      refine lv_bipush (v := (-2)) hx hb dX10_luck_43 (by decide) ?_
      exact hret _ _ _ _ ((-2) : Int32) _ dX10_luck_45 rfl ⟨hI, (Un.si Un.rf rfl eu1), trivial⟩ hH
set_option maxHeartbeats 4000000 in
set_option maxRecDepth 100000 in
theorem kX10_mean_0 (l : Launch) (D : va_G) (C : Nat → ClassId) (A : Nat → Nat) (u : St) (hI : IM u) (a0 : Int32) (A0 : Int) (ha0 : a0.toInt = A0) (a1 : Int32) (A1 : Int) (ha1 : a1.toInt = A1) (sz : Nat) : MetI l yX10_mean cX10_mean 6 (some .int) 66 [.ref (A 0), .int a0, .int a1] D (tyl C) (mw C A) X0 u sz (fun r u' => IM u' ∧ Un [(0, 0), (24, 24), (25, 25)] [(12, 12), (13, 13)] [] u u' ∧ (True)) := by
  refine mI (by decide) (Nat.le_of_ble_eq_true rfl) ?_
  intro p e s m below meth c ls ar Q hx hb hml hown hts hK hH hX hl hret
  have hown : s.vm.findClass RX10 = some m.cls := hown
  have hl : lv_has ls 6 [(0, .ref (A 0)), (1, .int a0), (2, .int a1)] := hl
  refine lv_aload_n hx hb dX10_mean_0 rfl (lv_at hl 0 rfl) ?_
  refine lv_iconst (v := 0) hx hb dX10_mean_1 (by decide) ?_
  refine r_put (j := 0) (ci := 10) (C := RX10) (T := TX10) (N := 42) hx hb hts (fun w h => uc_in w (inX10 w h)) tyX10 tyX10_ok nmX10 hown hK hH 0 (mwc0 C A u) rfl 0 (by decide) (hts _ (uc_in _ q_f1188)) (fun _ h9 => h9) rfl (by decide +kernel) (Nat.le_of_ble_eq_true rfl) (mws0 C A u _) dX10_mean_2 (fun u1 eu1 H locs hH => ?_)
  have hI := hI.pi0 eu1 rfl
  refine lv_aload_n hx hb dX10_mean_5 rfl (lv_at hl 0 rfl) ?_
  refine lv_iload_n hx hb dX10_mean_6 rfl (lv_at hl 1 rfl) ?_
  refine lv_i2l (v := a0.toInt64) hx hb dX10_mean_7 rfl ?_
  refine cvS (n := 1) (As := [.long a0.toInt64]) (rest := []) ⟨hx, hb, hml, hown, hts⟩ uc_in (kX10_isClock_0 l D C A u1 hI a0.toInt64 A0 (tt_i2l ha0)) q_m1460 q_n1462 q_p71 q_i11 q_c1463 hvX10_isClock ⟨(Nat.le_of_ble_eq_true rfl), (Nat.le_of_ble_eq_true rfl)⟩ ⟨(Nat.le_of_ble_eq_true rfl), (Nat.le_of_ble_eq_true rfl)⟩ hK hH.1 10 0 rfl (mwc0 C A u1) rfl hl.1 rfl (Nat.le_of_ble_eq_true rfl) dX10_mean_8 (fun r2 p3 => ?_)
  rcases p3 with ⟨e9, f4, f5⟩ | e9
  · subst e9
    have b7 : 0 ≤ ((ga u1 7 3)).toInt ∧ ((ga u1 7 3)).toInt ≤ 6 := hI.has 3
    refine lv_if_eq (tgt := 21) hx hb dX10_mean_11 (by decide) (fun c8 => absurd c8 (by decide)) (fun c8 => ?_)
    refine lv_iload_n hx hb dX10_mean_14 rfl (lv_at hl 2 rfl) ?_
    refine csS (n := 1) (As := [.int a1]) (rest := []) ⟨hx, hb, hml, hown, hts⟩ uc_in (kX10_isHalf_0 l D C A u1 hI a1 A1 ha1) q_m1664 q_s1665 q_i11 q_c1666 hvX10_isHalf ⟨(Nat.le_of_ble_eq_true rfl), (Nat.le_of_ble_eq_true rfl)⟩ ⟨(Nat.le_of_ble_eq_true rfl), (Nat.le_of_ble_eq_true rfl)⟩ hK hH.1 rfl hl.1 rfl (Nat.le_of_ble_eq_true rfl) dX10_mean_15 (fun r9 p10 => ?_)
    rcases p10 with ⟨e9, f11, f12⟩ | e9
    · subst e9
      refine lv_if_ne (tgt := 25) hx hb dX10_mean_18 (by decide) (fun c13 => ?_) (fun c13 => absurd c13 (by decide))
      refine lv_aload_n hx hb dX10_mean_25 rfl (lv_at hl 0 rfl) ?_
      refine cvU (n := 0) (As := []) (rest := []) ⟨hx, hb, hml, hown, hts⟩ uc_in (kX10_lays_0 l D C A u1 hI  _) q_m1481 q_n1483 q_p75 q_i11 q_c1484 hvX10_lays ⟨(Nat.le_of_ble_eq_true rfl), (Nat.le_of_ble_eq_true rfl)⟩ ⟨(Nat.le_of_ble_eq_true rfl), (Nat.le_of_ble_eq_true rfl)⟩ hK hH (fun q h => Or.inr h) Bl0 (fun _ _ _ => trivial) 10 0 rfl (mwc0 C A u1) rfl hl.1 rfl (Nat.le_of_ble_eq_true rfl) dX10_mean_26 (fun u14 H locs p16 hH => ?_)
      obtain ⟨hI, hUu14, p16⟩ := p16
      refine lv_iconst (v := 0) hx hb dX10_mean_29 (by decide) ?_
      refine lv_istore_n (lv' := [(3, .int 0), (0, .ref (A 0)), (1, .int a0), (2, .int a1)]) hx hb dX10_mean_30 rfl hl (by decide) rfl (fun ls hl => ?_)
      refine lv_iconst (v := 0) hx hb dX10_mean_31 (by decide) ?_
      refine lv_istore (lv' := [(4, .int 0), (3, .int 0), (0, .ref (A 0)), (1, .int a0), (2, .int a1)]) hx hb dX10_mean_32 hl (by decide) rfl (fun ls hl => ?_)
      refine lv_iconst (v := 0) hx hb dX10_mean_34 (by decide) ?_
      refine lv_istore (lv' := [(5, .int 0), (4, .int 0), (3, .int 0), (0, .ref (A 0)), (1, .int a0), (2, .int a1)]) hx hb dX10_mean_35 hl (by decide) rfl (fun ls hl => ?_)
      have lp37_445 : ∀ (n37 : Nat) (ls : Array Slot) (y443d : Int32) (y444d : Int32) (y445d : Int32), 0 ≤ y443d.toInt → y443d.toInt ≤ 7 → 7 - y443d.toInt < (n37 : Int) → lv_has ls 6 [(5, .int y443d), (4, .int y444d), (3, .int y445d), (0, .ref (A 0)), (1, .int a0), (2, .int a1)] → W p l e (rmL 66 0 0) s m ar below meth c H locs 0 0 Q (F0 m 37 ls []) := by
        intro n37
        induction n37 with
        | zero => intro ls y443d y444d y445d ly443d my443d hmun37 hl; exfalso; omega
        | succ n37 ih37_445 =>
          intro ls y443d y444d y445d ly443d my443d hmun37 hl
          refine lv_iload hx hb dX10_mean_37 (lv_at hl 0 rfl) ?_
          refine lv_aload_n hx hb dX10_mean_39 rfl (lv_at hl 3 rfl) ?_
          refine cvS (n := 0) (As := []) (rest := [.int y443d]) ⟨hx, hb, hml, hown, hts⟩ uc_in (kX10_days_0 l D C A u14 hI ) q_m1477 q_n1479 q_p74 q_i11 q_c1480 hvX10_days ⟨(Nat.le_of_ble_eq_true rfl), (Nat.le_of_ble_eq_true rfl)⟩ ⟨(Nat.le_of_ble_eq_true rfl), (Nat.le_of_ble_eq_true rfl)⟩ hK hH.1 10 0 rfl (mwc0 C A u14) rfl hl.1 rfl (Nat.le_of_ble_eq_true rfl) dX10_mean_40 (fun r447 p448 => ?_)
          subst p448
          have b449 : 0 ≤ ((ga u14 7 0)).toInt ∧ ((ga u14 7 0)).toInt ≤ 7 := hI.has 0
          refine lv_icmp_ge (tgt := 91) hx hb dX10_mean_43 (by decide) (fun c450 => ?_) (fun c450 => ?_)
          · have c450 := cLE (x := (ga u14 7 0)) (y := y443d) (X := ((ga u14 7 0)).toInt) (Y := y443d.toInt) rfl rfl c450
            refine lv_iload hx hb dX10_mean_91 (lv_at hl 1 rfl) ?_
            refine lv_if_ne (tgt := 108) hx hb dX10_mean_93 (by decide) (fun c451 => ?_) (fun c451 => ?_)
            · have c451 := cNE (x := y444d) (y := 0) (X := y444d.toInt) (Y := 0) rfl (by decide) c451
              refine lv_iload_n hx hb dX10_mean_108 rfl (lv_at hl 5 rfl) ?_
              have j118_462 : ∀ (ls : Array Slot) (y453d : Int32), lv_has ls 6 [(4, .int y444d), (3, .int y445d)] → W p l e (rmL 66 0 0) s m ar below meth c H locs 0 0 Q (F0 m 118 ls [.int y453d]) := by
                intro ls y453d hl
                refine lv_iload_n hx hb dX10_mean_118 rfl (lv_at hl 1 rfl) ?_
                refine lv_if_ge (tgt := 127) hx hb dX10_mean_119 (by decide) (fun c464 => ?_) (fun c464 => ?_)
                · have c464 := cLE (x := 0) (y := y445d) (X := 0) (Y := y445d.toInt) (by decide) rfl c464
                  refine lv_iload_n hx hb dX10_mean_127 rfl (lv_at hl 1 rfl) ?_
                  refine lv_iload hx hb dX10_mean_128 (lv_at hl 0 rfl) ?_
                  refine csS (n := 2) (As := [.int y445d, .int y444d]) (rest := [.int y453d]) ⟨hx, hb, hml, hown, hts⟩ uc_in (kX10_common_0 l D C A u14 hI y445d y445d.toInt rfl y444d y444d.toInt rfl (by omega)) q_m1667 q_s1668 q_i11 q_c1669 hvX10_common ⟨(Nat.le_of_ble_eq_true rfl), (Nat.le_of_ble_eq_true rfl)⟩ ⟨(Nat.le_of_ble_eq_true rfl), (Nat.le_of_ble_eq_true rfl)⟩ hK hH.1 rfl hl.1 rfl (Nat.le_of_ble_eq_true rfl) dX10_mean_130 (fun r465 p466 => ?_)
                  have p466 := cNE (x := r465) (y := 0) (X := r465.toInt) (Y := 0) rfl (by decide) p466
                  refine lv_idiv hx hb dX10_mean_133 (i_ne rfl (by omega)) ?_
                  refine p_any (fun z467 => ?_)
                  exact hret _ _ _ _ z467 _ dX10_mean_134 rfl ⟨hI, (Un.tr (Un.si Un.rf rfl eu1) hUu14 rfl rfl rfl), trivial⟩ hH
                · have c464 := cNLE (x := 0) (y := y445d) (X := 0) (Y := y445d.toInt) (by decide) rfl c464
                  refine lv_iload_n hx hb dX10_mean_122 rfl (lv_at hl 1 rfl) ?_
                  refine lv_ineg hx hb dX10_mean_123 ?_
                  refine p_any (fun z468 => ?_)
                  refine lv_goto (tgt := 128) hx hb dX10_mean_124 (by decide) ?_
                  refine lv_iload hx hb dX10_mean_128 (lv_at hl 0 rfl) ?_
                  refine csS (n := 2) (As := [.int z468, .int y444d]) (rest := [.int y453d]) ⟨hx, hb, hml, hown, hts⟩ uc_in (kX10_common_0 l D C A u14 hI z468 z468.toInt rfl y444d y444d.toInt rfl (by omega)) q_m1667 q_s1668 q_i11 q_c1669 hvX10_common ⟨(Nat.le_of_ble_eq_true rfl), (Nat.le_of_ble_eq_true rfl)⟩ ⟨(Nat.le_of_ble_eq_true rfl), (Nat.le_of_ble_eq_true rfl)⟩ hK hH.1 rfl hl.1 rfl (Nat.le_of_ble_eq_true rfl) dX10_mean_130 (fun r469 p470 => ?_)
                  have p470 := cNE (x := r469) (y := 0) (X := r469.toInt) (Y := 0) rfl (by decide) p470
                  refine lv_idiv hx hb dX10_mean_133 (i_ne rfl (by omega)) ?_
                  refine p_any (fun z471 => ?_)
                  exact hret _ _ _ _ z471 _ dX10_mean_134 rfl ⟨hI, (Un.tr (Un.si Un.rf rfl eu1) hUu14 rfl rfl rfl), trivial⟩ hH
              refine lv_if_ne (tgt := 116) hx hb dX10_mean_109 (by decide) (fun c452 => ?_) (fun c452 => ?_)
              · have c452 := cNE (x := a1) (y := 0) (X := A1) (Y := 0) ha1 (by decide) c452
                refine lv_iload hx hb dX10_mean_116 (lv_at hl 1 rfl) ?_
                exact j118_462 ls y444d (lv_sub hl [1, 2] rfl)
              · have c452 := cEQ (x := a1) (y := 0) (X := A1) (Y := 0) ha1 (by decide) c452
                refine lv_iload_n hx hb dX10_mean_112 rfl (lv_at hl 2 rfl) ?_
                refine lv_goto (tgt := 118) hx hb dX10_mean_113 (by decide) ?_
                exact j118_462 ls y445d (lv_sub hl [1, 2] rfl)
            · have c451 := cEQ (x := y444d) (y := 0) (X := y444d.toInt) (Y := 0) rfl (by decide) c451
              refine lv_iload_n hx hb dX10_mean_96 rfl (lv_at hl 5 rfl) ?_
              refine lv_if_ne (tgt := 106) hx hb dX10_mean_97 (by decide) (fun c472 => ?_) (fun c472 => ?_)
              · have c472 := cNE (x := a1) (y := 0) (X := A1) (Y := 0) ha1 (by decide) c472
                refine lv_iconst (v := 1) hx hb dX10_mean_106 (by decide) ?_
                exact hret _ _ _ _ (1 : Int32) _ dX10_mean_107 rfl ⟨hI, (Un.tr (Un.si Un.rf rfl eu1) hUu14 rfl rfl rfl), trivial⟩ hH
              · have c472 := cEQ (x := a1) (y := 0) (X := A1) (Y := 0) ha1 (by decide) c472
                refine lv_sipush (v := 10000) hx hb dX10_mean_100 (by decide) ?_
                refine lv_goto (tgt := 107) hx hb dX10_mean_103 (by decide) ?_
                exact hret _ _ _ _ (10000 : Int32) _ dX10_mean_107 rfl ⟨hI, (Un.tr (Un.si Un.rf rfl eu1) hUu14 rfl rfl rfl), trivial⟩ hH
          · have c450 := cNLE (x := (ga u14 7 0)) (y := y443d) (X := ((ga u14 7 0)).toInt) (Y := y443d.toInt) rfl rfl c450
            refine lv_aload_n hx hb dX10_mean_46 rfl (lv_at hl 3 rfl) ?_
            refine va_get (ci := 10) (v := .ref (A 12)) (C := RX10) (T := TX10) (N := 42) hx hb hts (fun w h => uc_in w (inX10 w h)) hown hK hH.1 0 (mwc0 C A u14) rfl 22 (by decide) (hts _ (uc_in _ q_f1210)) (fun _ h9 => h9) rfl dX10_mean_47 ?_
            refine lv_bipush (v := 6) hx hb dX10_mean_50 (by decide) ?_
            refine lv_iload hx hb dX10_mean_52 (lv_at hl 0 rfl) ?_
            refine lv_imul hx hb dX10_mean_54 ?_
            refine p_nm (tt_mul (X := 6) (Y := y443d.toInt) (by decide) rfl (by omega) (by omega)) (fun z473 hz473 => ?_)
            refine lv_iload_n hx hb dX10_mean_55 rfl (lv_at hl 4 rfl) ?_
            refine lv_iadd hx hb dX10_mean_56 ?_
            refine p_nm (tt_add (X := (6 * y443d.toInt)) (Y := A0) hz473 ha0 (by omega) (by omega)) (fun z474 hz474 => ?_)
            refine va_iald hx hb hK hH.1 12 1 (mwc12 C A u14) rfl (i_ix hz474 (by omega) (by omega)) dX10_mean_57 ?_
            refine p_any (fun z475 => ?_)
            refine lv_sipush (v := 10000) hx hb dX10_mean_58 (by decide) ?_
            have j85_485 : ∀ (ls : Array Slot) (y482d : Int32) (y483d : Int32), lv_has ls 6 [(4, .int y482d), (3, .int y483d), (5, .int y443d), (0, .ref (A 0)), (1, .int a0), (2, .int a1)] → W p l e (rmL 66 0 0) s m ar below meth c H locs 0 0 Q (F0 m 85 ls []) := by
              intro ls y482d y483d hl
              obtain ⟨z487, ez487⟩ : ∃ z, z = y443d + Int32.ofInt 1 := ⟨_, rfl⟩
              have hz487 : z487.toInt = y443d.toInt + 1 := by rw [ez487]; exact tt_add rfl (by decide) (by omega) (by omega)
              refine lv_iinc (v := z487) (lv' := [(5, .int z487), (4, .int y482d), (3, .int y483d), (0, .ref (A 0)), (1, .int a0), (2, .int a1)]) hx hb dX10_mean_85 hl (k := 2) rfl ez487.symm (by decide) rfl (fun ls hl => ?_)
              refine lv_goto (tgt := 37) hx hb dX10_mean_88 (by decide) ?_
              exact ih37_445 ls z487 y482d y483d (by have q9 := (show z487.toInt = (y443d.toInt + 1) from hz487); omega) (by have q9 := (show z487.toInt = (y443d.toInt + 1) from hz487); omega) (by have q9 := (show z487.toInt = (y443d.toInt + 1) from hz487); omega) hl
            refine lv_icmp_ne (tgt := 67) hx hb dX10_mean_61 (by decide) (fun c476 => ?_) (fun c476 => ?_)
            · have c476 := cNE (x := z475) (y := 10000) (X := z475.toInt) (Y := 10000) rfl (by decide) c476
              refine lv_iload_n hx hb dX10_mean_67 rfl (lv_at hl 2 rfl) ?_
              refine lv_aload_n hx hb dX10_mean_68 rfl (lv_at hl 3 rfl) ?_
              refine va_get (ci := 10) (v := .ref (A 12)) (C := RX10) (T := TX10) (N := 42) hx hb hts (fun w h => uc_in w (inX10 w h)) hown hK hH.1 0 (mwc0 C A u14) rfl 22 (by decide) (hts _ (uc_in _ q_f1210)) (fun _ h9 => h9) rfl dX10_mean_69 ?_
              refine lv_bipush (v := 6) hx hb dX10_mean_72 (by decide) ?_
              refine lv_iload hx hb dX10_mean_74 (lv_at hl 0 rfl) ?_
              refine lv_imul hx hb dX10_mean_76 ?_
              refine p_nm (tt_mul (X := 6) (Y := y443d.toInt) (by decide) rfl (by omega) (by omega)) (fun z488 hz488 => ?_)
              refine lv_iload_n hx hb dX10_mean_77 rfl (lv_at hl 4 rfl) ?_
              refine lv_iadd hx hb dX10_mean_78 ?_
              refine p_nm (tt_add (X := (6 * y443d.toInt)) (Y := A0) hz488 ha0 (by omega) (by omega)) (fun z489 hz489 => ?_)
              refine va_iald hx hb hK hH.1 12 1 (mwc12 C A u14) rfl (i_ix hz489 (by omega) (by omega)) dX10_mean_79 ?_
              refine p_any (fun z490 => ?_)
              refine lv_iadd hx hb dX10_mean_80 ?_
              refine p_any (fun z491 => ?_)
              refine lv_istore_n (lv' := [(3, .int z491), (5, .int y443d), (4, .int y444d), (0, .ref (A 0)), (1, .int a0), (2, .int a1)]) hx hb dX10_mean_81 rfl hl (by decide) rfl (fun ls hl => ?_)
              obtain ⟨z492, ez492⟩ : ∃ z, z = y444d + Int32.ofInt 1 := ⟨_, rfl⟩
              refine lv_iinc (v := z492) (lv' := [(4, .int z492), (3, .int z491), (5, .int y443d), (0, .ref (A 0)), (1, .int a0), (2, .int a1)]) hx hb dX10_mean_82 hl (k := 2) rfl ez492.symm (by decide) rfl (fun ls hl => ?_)
              exact j85_485 ls z492 z491 hl
            · have c476 := cEQ (x := z475) (y := 10000) (X := z475.toInt) (Y := 10000) rfl (by decide) c476
              refine lv_goto (tgt := 85) hx hb dX10_mean_64 (by decide) ?_
              exact j85_485 ls y444d y445d (lv_sub hl [1, 2, 0, 3, 4, 5] rfl)
      exact lp37_445 8 ls 0 0 0 (by decide) (by decide) (by have q9 : (0 : Int32).toInt = 0 := (by decide); omega) hl
    · subst e9
      refine lv_if_ne (tgt := 25) hx hb dX10_mean_18 (by decide) (fun c493 => absurd c493 (by decide)) (fun c493 => ?_)
      refine lv_sipush (v := (-1000)) hx hb dX10_mean_21 (by decide) ?_
      exact hret _ _ _ _ ((-1000) : Int32) _ dX10_mean_24 rfl ⟨hI, (Un.si Un.rf rfl eu1), trivial⟩ hH
  · subst e9
    refine lv_if_eq (tgt := 21) hx hb dX10_mean_11 (by decide) (fun c494 => ?_) (fun c494 => absurd c494 (by decide))
    refine lv_sipush (v := (-1000)) hx hb dX10_mean_21 (by decide) ?_
    exact hret _ _ _ _ ((-1000) : Int32) _ dX10_mean_24 rfl ⟨hI, (Un.si Un.rf rfl eu1), trivial⟩ hH
set_option maxHeartbeats 4000000 in
set_option maxRecDepth 100000 in
theorem kX10_meet_0 (l : Launch) (D : va_G) (C : Nat → ClassId) (A : Nat → Nat) (u : St) (hI : IM u) (a0 : Int32) (A0 : Int) (ha0 : a0.toInt = A0) (a1 : Int32) (A1 : Int) (ha1 : a1.toInt = A1) (sz : Nat) : MetI l yX10_meet cX10_meet 4 (some .int) 4 [.ref (A 0), .int a0, .int a1] D (tyl C) (mw C A) X0 u sz (fun r u' => IM u' ∧ Un [(0, 0), (24, 24), (25, 25)] [(12, 12), (13, 13)] [] u u' ∧ ((-2) ≤ r.toInt ∧ r.toInt ≤ 6)) := by
  refine mI (by decide) (Nat.le_of_ble_eq_true rfl) ?_
  intro p e s m below meth c ls ar Q hx hb hml hown hts hK hH hX hl hret
  have hown : s.vm.findClass RX10 = some m.cls := hown
  have hl : lv_has ls 4 [(0, .ref (A 0)), (1, .int a0), (2, .int a1)] := hl
  refine lv_aload_n hx hb dX10_meet_0 rfl (lv_at hl 0 rfl) ?_
  refine lv_iconst (v := 0) hx hb dX10_meet_1 (by decide) ?_
  refine r_put (j := 0) (ci := 10) (C := RX10) (T := TX10) (N := 42) hx hb hts (fun w h => uc_in w (inX10 w h)) tyX10 tyX10_ok nmX10 hown hK hH 0 (mwc0 C A u) rfl 0 (by decide) (hts _ (uc_in _ q_f1188)) (fun _ h9 => h9) rfl (by decide +kernel) (Nat.le_of_ble_eq_true rfl) (mws0 C A u _) dX10_meet_2 (fun u1 eu1 H locs hH => ?_)
  have hI := hI.pi0 eu1 rfl
  refine lv_aload_n hx hb dX10_meet_5 rfl (lv_at hl 0 rfl) ?_
  refine lv_iload_n hx hb dX10_meet_6 rfl (lv_at hl 1 rfl) ?_
  refine lv_i2l (v := a0.toInt64) hx hb dX10_meet_7 rfl ?_
  refine cvS (n := 1) (As := [.long a0.toInt64]) (rest := []) ⟨hx, hb, hml, hown, hts⟩ uc_in (kX10_isClock_0 l D C A u1 hI a0.toInt64 A0 (tt_i2l ha0)) q_m1460 q_n1462 q_p71 q_i11 q_c1463 hvX10_isClock ⟨(Nat.le_of_ble_eq_true rfl), (Nat.le_of_ble_eq_true rfl)⟩ ⟨(Nat.le_of_ble_eq_true rfl), (Nat.le_of_ble_eq_true rfl)⟩ hK hH.1 10 0 rfl (mwc0 C A u1) rfl hl.1 rfl (Nat.le_of_ble_eq_true rfl) dX10_meet_8 (fun r2 p3 => ?_)
  rcases p3 with ⟨e9, f4, f5⟩ | e9
  · subst e9
    have b7 : 0 ≤ ((ga u1 7 3)).toInt ∧ ((ga u1 7 3)).toInt ≤ 6 := hI.has 3
    refine lv_if_eq (tgt := 23) hx hb dX10_meet_11 (by decide) (fun c8 => absurd c8 (by decide)) (fun c8 => ?_)
    refine lv_aload_n hx hb dX10_meet_14 rfl (lv_at hl 0 rfl) ?_
    refine lv_iload_n hx hb dX10_meet_15 rfl (lv_at hl 2 rfl) ?_
    refine lv_i2l (v := a1.toInt64) hx hb dX10_meet_16 rfl ?_
    refine cvS (n := 1) (As := [.long a1.toInt64]) (rest := []) ⟨hx, hb, hml, hown, hts⟩ uc_in (kX10_isClock_0 l D C A u1 hI a1.toInt64 A1 (tt_i2l ha1)) q_m1460 q_n1462 q_p71 q_i11 q_c1463 hvX10_isClock ⟨(Nat.le_of_ble_eq_true rfl), (Nat.le_of_ble_eq_true rfl)⟩ ⟨(Nat.le_of_ble_eq_true rfl), (Nat.le_of_ble_eq_true rfl)⟩ hK hH.1 10 0 rfl (mwc0 C A u1) rfl hl.1 rfl (Nat.le_of_ble_eq_true rfl) dX10_meet_17 (fun r9 p10 => ?_)
    rcases p10 with ⟨e9, f11, f12⟩ | e9
    · subst e9
      refine lv_if_ne (tgt := 26) hx hb dX10_meet_20 (by decide) (fun c13 => ?_) (fun c13 => absurd c13 (by decide))
      refine lv_aload_n hx hb dX10_meet_26 rfl (lv_at hl 0 rfl) ?_
      refine cvU (n := 0) (As := []) (rest := []) ⟨hx, hb, hml, hown, hts⟩ uc_in (kX10_lays_0 l D C A u1 hI  _) q_m1481 q_n1483 q_p75 q_i11 q_c1484 hvX10_lays ⟨(Nat.le_of_ble_eq_true rfl), (Nat.le_of_ble_eq_true rfl)⟩ ⟨(Nat.le_of_ble_eq_true rfl), (Nat.le_of_ble_eq_true rfl)⟩ hK hH (fun q h => Or.inr h) Bl0 (fun _ _ _ => trivial) 10 0 rfl (mwc0 C A u1) rfl hl.1 rfl (Nat.le_of_ble_eq_true rfl) dX10_meet_27 (fun u14 H locs p16 hH => ?_)
      obtain ⟨hI, hUu14, p16⟩ := p16
      refine lv_iconst (v := 0) hx hb dX10_meet_30 (by decide) ?_
      refine lv_istore_n (lv' := [(3, .int 0), (0, .ref (A 0)), (1, .int a0), (2, .int a1)]) hx hb dX10_meet_31 rfl hl (by decide) rfl (fun ls hl => ?_)
      have lp32_97 : ∀ (n32 : Nat) (ls : Array Slot) (y97d : Int32), 0 ≤ y97d.toInt → y97d.toInt ≤ 7 → 7 - y97d.toInt < (n32 : Int) → lv_has ls 4 [(3, .int y97d), (0, .ref (A 0)), (1, .int a0), (2, .int a1)] → W p l e (rmL 4 0 0) s m ar below meth c H locs 0 0 Q (F0 m 32 ls []) := by
        intro n32
        induction n32 with
        | zero => intro ls y97d ly97d my97d hmun32 hl; exfalso; omega
        | succ n32 ih32_97 =>
          intro ls y97d ly97d my97d hmun32 hl
          refine lv_iload_n hx hb dX10_meet_32 rfl (lv_at hl 0 rfl) ?_
          refine lv_aload_n hx hb dX10_meet_33 rfl (lv_at hl 1 rfl) ?_
          refine cvS (n := 0) (As := []) (rest := [.int y97d]) ⟨hx, hb, hml, hown, hts⟩ uc_in (kX10_days_0 l D C A u14 hI ) q_m1477 q_n1479 q_p74 q_i11 q_c1480 hvX10_days ⟨(Nat.le_of_ble_eq_true rfl), (Nat.le_of_ble_eq_true rfl)⟩ ⟨(Nat.le_of_ble_eq_true rfl), (Nat.le_of_ble_eq_true rfl)⟩ hK hH.1 10 0 rfl (mwc0 C A u14) rfl hl.1 rfl (Nat.le_of_ble_eq_true rfl) dX10_meet_34 (fun r99 p100 => ?_)
          subst p100
          have b101 : 0 ≤ ((ga u14 7 0)).toInt ∧ ((ga u14 7 0)).toInt ≤ 7 := hI.has 0
          refine lv_icmp_ge (tgt := 73) hx hb dX10_meet_37 (by decide) (fun c102 => ?_) (fun c102 => ?_)
          · have c102 := cLE (x := (ga u14 7 0)) (y := y97d) (X := ((ga u14 7 0)).toInt) (Y := y97d.toInt) rfl rfl c102
            refine lv_iconst (v := (-1)) hx hb dX10_meet_73 (by decide) ?_
            exact hret _ _ _ _ ((-1) : Int32) _ dX10_meet_74 rfl ⟨hI, (Un.tr (Un.si Un.rf rfl eu1) hUu14 rfl rfl rfl), ⟨by decide, by decide⟩⟩ hH
          · have c102 := cNLE (x := (ga u14 7 0)) (y := y97d) (X := ((ga u14 7 0)).toInt) (Y := y97d.toInt) rfl rfl c102
            refine lv_aload_n hx hb dX10_meet_40 rfl (lv_at hl 1 rfl) ?_
            refine va_get (ci := 10) (v := .ref (A 12)) (C := RX10) (T := TX10) (N := 42) hx hb hts (fun w h => uc_in w (inX10 w h)) hown hK hH.1 0 (mwc0 C A u14) rfl 22 (by decide) (hts _ (uc_in _ q_f1210)) (fun _ h9 => h9) rfl dX10_meet_41 ?_
            refine lv_bipush (v := 6) hx hb dX10_meet_44 (by decide) ?_
            refine lv_iload_n hx hb dX10_meet_46 rfl (lv_at hl 0 rfl) ?_
            refine lv_imul hx hb dX10_meet_47 ?_
            refine p_nm (tt_mul (X := 6) (Y := y97d.toInt) (by decide) rfl (by omega) (by omega)) (fun z103 hz103 => ?_)
            refine lv_iload_n hx hb dX10_meet_48 rfl (lv_at hl 2 rfl) ?_
            refine lv_iadd hx hb dX10_meet_49 ?_
            refine p_nm (tt_add (X := (6 * y97d.toInt)) (Y := A0) hz103 ha0 (by omega) (by omega)) (fun z104 hz104 => ?_)
            refine va_iald hx hb hK hH.1 12 1 (mwc12 C A u14) rfl (i_ix hz104 (by omega) (by omega)) dX10_meet_50 ?_
            refine p_any (fun z105 => ?_)
            refine lv_aload_n hx hb dX10_meet_51 rfl (lv_at hl 1 rfl) ?_
            refine va_get (ci := 10) (v := .ref (A 12)) (C := RX10) (T := TX10) (N := 42) hx hb hts (fun w h => uc_in w (inX10 w h)) hown hK hH.1 0 (mwc0 C A u14) rfl 22 (by decide) (hts _ (uc_in _ q_f1210)) (fun _ h9 => h9) rfl dX10_meet_52 ?_
            refine lv_bipush (v := 6) hx hb dX10_meet_55 (by decide) ?_
            refine lv_iload_n hx hb dX10_meet_57 rfl (lv_at hl 0 rfl) ?_
            refine lv_imul hx hb dX10_meet_58 ?_
            refine p_nm (tt_mul (X := 6) (Y := y97d.toInt) (by decide) rfl (by omega) (by omega)) (fun z106 hz106 => ?_)
            refine lv_iload_n hx hb dX10_meet_59 rfl (lv_at hl 3 rfl) ?_
            refine lv_iadd hx hb dX10_meet_60 ?_
            refine p_nm (tt_add (X := (6 * y97d.toInt)) (Y := A1) hz106 ha1 (by omega) (by omega)) (fun z107 hz107 => ?_)
            refine va_iald hx hb hK hH.1 12 1 (mwc12 C A u14) rfl (i_ix hz107 (by omega) (by omega)) dX10_meet_61 ?_
            refine p_any (fun z108 => ?_)
            refine lv_icmp_ne (tgt := 67) hx hb dX10_meet_62 (by decide) (fun c109 => ?_) (fun c109 => ?_)
            · obtain ⟨z110, ez110⟩ : ∃ z, z = y97d + Int32.ofInt 1 := ⟨_, rfl⟩
              have hz110 : z110.toInt = y97d.toInt + 1 := by rw [ez110]; exact tt_add rfl (by decide) (by omega) (by omega)
              refine lv_iinc (v := z110) (lv' := [(3, .int z110), (0, .ref (A 0)), (1, .int a0), (2, .int a1)]) hx hb dX10_meet_67 hl (k := 0) rfl ez110.symm (by decide) rfl (fun ls hl => ?_)
              refine lv_goto (tgt := 32) hx hb dX10_meet_70 (by decide) ?_
              exact ih32_97 ls z110 (by have q9 := (show z110.toInt = (y97d.toInt + 1) from hz110); omega) (by have q9 := (show z110.toInt = (y97d.toInt + 1) from hz110); omega) (by have q9 := (show z110.toInt = (y97d.toInt + 1) from hz110); omega) hl
            · have c109 := cEQ (x := z105) (y := z108) (X := z105.toInt) (Y := z108.toInt) rfl rfl c109
              refine lv_iload_n hx hb dX10_meet_65 rfl (lv_at hl 0 rfl) ?_
              exact hret _ _ _ _ y97d _ dX10_meet_66 rfl ⟨hI, (Un.tr (Un.si Un.rf rfl eu1) hUu14 rfl rfl rfl), ⟨by omega, by omega⟩⟩ hH
      exact lp32_97 8 ls 0 (by decide) (by decide) (by have q9 : (0 : Int32).toInt = 0 := (by decide); omega) hl
    · subst e9
      refine lv_if_ne (tgt := 26) hx hb dX10_meet_20 (by decide) (fun c111 => absurd c111 (by decide)) (fun c111 => ?_)
      refine lv_bipush (v := (-2)) hx hb dX10_meet_23 (by decide) ?_
      exact hret _ _ _ _ ((-2) : Int32) _ dX10_meet_25 rfl ⟨hI, (Un.si Un.rf rfl eu1), ⟨by decide, by decide⟩⟩ hH
  · subst e9
    refine lv_if_eq (tgt := 23) hx hb dX10_meet_11 (by decide) (fun c112 => ?_) (fun c112 => absurd c112 (by decide))
    refine lv_bipush (v := (-2)) hx hb dX10_meet_23 (by decide) ?_
    exact hret _ _ _ _ ((-2) : Int32) _ dX10_meet_25 rfl ⟨hI, (Un.si Un.rf rfl eu1), ⟨by decide, by decide⟩⟩ hH
set_option maxHeartbeats 4000000 in
set_option maxRecDepth 100000 in
theorem kX10_mend_0 (l : Launch) (D : va_G) (C : Nat → ClassId) (A : Nat → Nat) (u : St) (hI : IM u) (a0 : Int32) (A0 : Int) (ha0 : a0.toInt = A0) (a1 : Int32) (A1 : Int) (ha1 : a1.toInt = A1) (sz : Nat) : MetI l yX10_mend cX10_mend 3 (some .int) 5 [.ref (A 0), .int a0, .int a1] D (tyl C) (mw C A) X0 u sz (fun r u' => IM u' ∧ Un [(0, 0), (24, 24), (25, 25)] [(7, 7), (10, 10), (12, 12), (13, 13)] [] u u' ∧ (True)) := by
  refine mI (by decide) (Nat.le_of_ble_eq_true rfl) ?_
  intro p e s m below meth c ls ar Q hx hb hml hown hts hK hH hX hl hret
  have hown : s.vm.findClass RX10 = some m.cls := hown
  have hl : lv_has ls 3 [(0, .ref (A 0)), (1, .int a0), (2, .int a1)] := hl
  refine lv_aload_n hx hb dX10_mend_0 rfl (lv_at hl 0 rfl) ?_
  refine lv_iconst (v := 0) hx hb dX10_mend_1 (by decide) ?_
  refine r_put (j := 0) (ci := 10) (C := RX10) (T := TX10) (N := 42) hx hb hts (fun w h => uc_in w (inX10 w h)) tyX10 tyX10_ok nmX10 hown hK hH 0 (mwc0 C A u) rfl 0 (by decide) (hts _ (uc_in _ q_f1188)) (fun _ h9 => h9) rfl (by decide +kernel) (Nat.le_of_ble_eq_true rfl) (mws0 C A u _) dX10_mend_2 (fun u1 eu1 H locs hH => ?_)
  have hI := hI.pi0 eu1 rfl
  refine lv_aload_n hx hb dX10_mend_5 rfl (lv_at hl 0 rfl) ?_
  refine lv_iload_n hx hb dX10_mend_6 rfl (lv_at hl 1 rfl) ?_
  refine lv_i2l (v := a0.toInt64) hx hb dX10_mend_7 rfl ?_
  refine cvS (n := 1) (As := [.long a0.toInt64]) (rest := []) ⟨hx, hb, hml, hown, hts⟩ uc_in (kX10_isClock_0 l D C A u1 hI a0.toInt64 A0 (tt_i2l ha0)) q_m1460 q_n1462 q_p71 q_i11 q_c1463 hvX10_isClock ⟨(Nat.le_of_ble_eq_true rfl), (Nat.le_of_ble_eq_true rfl)⟩ ⟨(Nat.le_of_ble_eq_true rfl), (Nat.le_of_ble_eq_true rfl)⟩ hK hH.1 10 0 rfl (mwc0 C A u1) rfl hl.1 rfl (Nat.le_of_ble_eq_true rfl) dX10_mend_8 (fun r2 p3 => ?_)
  rcases p3 with ⟨e9, f4, f5⟩ | e9
  · subst e9
    have b7 : 0 ≤ ((ga u1 7 3)).toInt ∧ ((ga u1 7 3)).toInt ≤ 6 := hI.has 3
    refine lv_if_eq (tgt := 33) hx hb dX10_mend_11 (by decide) (fun c8 => absurd c8 (by decide)) (fun c8 => ?_)
    refine lv_aload_n hx hb dX10_mend_14 rfl (lv_at hl 0 rfl) ?_
    refine lv_iload_n hx hb dX10_mend_15 rfl (lv_at hl 2 rfl) ?_
    refine lv_i2l (v := a1.toInt64) hx hb dX10_mend_16 rfl ?_
    refine cvS (n := 1) (As := [.long a1.toInt64]) (rest := []) ⟨hx, hb, hml, hown, hts⟩ uc_in (kX10_isDay_0 l D C A u1 hI a1.toInt64 A1 (tt_i2l ha1)) q_m1473 q_n1475 q_p73 q_i11 q_c1476 hvX10_isDay ⟨(Nat.le_of_ble_eq_true rfl), (Nat.le_of_ble_eq_true rfl)⟩ ⟨(Nat.le_of_ble_eq_true rfl), (Nat.le_of_ble_eq_true rfl)⟩ hK hH.1 10 0 rfl (mwc0 C A u1) rfl hl.1 rfl (Nat.le_of_ble_eq_true rfl) dX10_mend_17 (fun r9 p10 => ?_)
    rcases p10 with ⟨e9, f11, f12⟩ | e9
    · subst e9
      have b14 : 0 ≤ ((ga u1 7 0)).toInt ∧ ((ga u1 7 0)).toInt ≤ 7 := hI.has 0
      refine lv_if_eq (tgt := 33) hx hb dX10_mend_20 (by decide) (fun c15 => absurd c15 (by decide)) (fun c15 => ?_)
      refine lv_aload_n hx hb dX10_mend_23 rfl (lv_at hl 0 rfl) ?_
      refine lv_iconst (v := 0) hx hb dX10_mend_24 (by decide) ?_
      refine lv_iload_n hx hb dX10_mend_25 rfl (lv_at hl 1 rfl) ?_
      refine lv_iload_n hx hb dX10_mend_26 rfl (lv_at hl 2 rfl) ?_
      refine cvI (n := 3) (As := [.int 0, .int a0, .int a1]) (rest := []) ⟨hx, hb, hml, hown, hts⟩ uc_in (kX10_acts_0 l D C A u1 hI (0) 0 (by decide) a0 A0 ha0 a1 A1 ha1 (by omega) (by omega) (by omega) (by omega) _) q_m1871 q_n1873 q_p111 q_i11 q_c1874 hvX10_acts ⟨(Nat.le_of_ble_eq_true rfl), (Nat.le_of_ble_eq_true rfl)⟩ ⟨(Nat.le_of_ble_eq_true rfl), (Nat.le_of_ble_eq_true rfl)⟩ hK hH (fun q h => Or.inr h) Bl0 (fun _ _ _ => trivial) 10 0 rfl (mwc0 C A u1) rfl hl.1 rfl (Nat.le_of_ble_eq_true rfl) dX10_mend_27 (fun r17 u16 H locs p18 hH => ?_)
      obtain ⟨hI, hUu16, p18⟩ := p18
      refine lv_goto (tgt := 36) hx hb dX10_mend_30 (by decide) ?_
      exact hret _ _ _ _ r17 _ dX10_mend_36 rfl ⟨hI, (Un.tr (Un.si Un.rf rfl eu1) hUu16 rfl rfl rfl), trivial⟩ hH
    · subst e9
      refine lv_if_eq (tgt := 33) hx hb dX10_mend_20 (by decide) (fun c19 => ?_) (fun c19 => absurd c19 (by decide))
      refine lv_sipush (v := (-1000)) hx hb dX10_mend_33 (by decide) ?_
      exact hret _ _ _ _ ((-1000) : Int32) _ dX10_mend_36 rfl ⟨hI, (Un.si Un.rf rfl eu1), trivial⟩ hH
  · subst e9
    refine lv_if_eq (tgt := 33) hx hb dX10_mend_11 (by decide) (fun c20 => ?_) (fun c20 => absurd c20 (by decide))
    refine lv_sipush (v := (-1000)) hx hb dX10_mend_33 (by decide) ?_
    exact hret _ _ _ _ ((-1000) : Int32) _ dX10_mend_36 rfl ⟨hI, (Un.si Un.rf rfl eu1), trivial⟩ hH
set_option maxHeartbeats 4000000 in
set_option maxRecDepth 100000 in
theorem kX10_isMends_0 (l : Launch) (D : va_G) (C : Nat → ClassId) (A : Nat → Nat) (u : St) (hI : IM u) (a0 : Int32) (A0 : Int) (ha0 : a0.toInt = A0) : Met l yX10_isMends (uc yX10_isMends cX10_isMends 2 (some .boolean)) (rmL 2 0 0) (va_Pc [.ref (A 0), .int a0] (PreR D (tyl C) (mw C A u))) (vp_Si (fun r => (r = 1 ∧ 0 ≤ A0 ∧ A0 ≤ 3) ∨ r = 0)) 0 0 (fun _ => False) := by
  refine mS (by decide) (Nat.le_of_ble_eq_true rfl) ?_
  intro p e s m below meth c ls ar Q hx hb hml hown hts hK hP hl hret
  have hown : s.vm.findClass RX10 = some m.cls := hown
  have hl : lv_has ls 2 [(0, .ref (A 0)), (1, .int a0)] := hl
  refine lv_aload_n hx hb dX10_isMends_0 rfl (lv_at hl 0 rfl) ?_
  refine cvS (n := 0) (As := []) (rest := []) ⟨hx, hb, hml, hown, hts⟩ uc_in (kX10_isTown_0 l D C A u hI ) q_m1554 q_n1556 q_p84 q_i11 q_c1557 hvX10_isTown ⟨(Nat.le_of_ble_eq_true rfl), (Nat.le_of_ble_eq_true rfl)⟩ ⟨(Nat.le_of_ble_eq_true rfl), (Nat.le_of_ble_eq_true rfl)⟩ hK hP 10 0 rfl (mwc0 C A u) rfl hl.1 rfl (Nat.le_of_ble_eq_true rfl) dX10_isMends_1 (fun r1 p2 => ?_)
  have p2 : 0 ≤ r1.toInt ∧ r1.toInt ≤ 1 := p2
  refine lv_if_eq (tgt := 23) hx hb dX10_isMends_4 (by decide) (fun c3 => ?_) (fun c3 => ?_)
  · have c3 := cEQ (x := r1) (y := 0) (X := r1.toInt) (Y := 0) rfl (by decide) c3
    refine lv_iconst (v := 0) hx hb dX10_isMends_23 (by decide) ?_
    exact hret _ _ (0 : Int32) dX10_isMends_24 rfl (Or.inr rfl)
  · have c3 := cNE (x := r1) (y := 0) (X := r1.toInt) (Y := 0) rfl (by decide) c3
    refine lv_iload_n hx hb dX10_isMends_7 rfl (lv_at hl 1 rfl) ?_
    refine lv_i2l (v := a0.toInt64) hx hb dX10_isMends_8 rfl ?_
    refine lv_lconst (v := 0) hx hb dX10_isMends_9 (by decide) ?_
    refine lv_ldc2 (v := 3) hx hb hown (hts _ (uc_in _ q_k1323)) dX10_isMends_10 ?_
    refine csS (n := 3) (As := [.long a0.toInt64, .long 0, .long 3]) (rest := []) ⟨hx, hb, hml, hown, hts⟩ uc_in (kX10_in_0 l D C A u hI a0.toInt64 A0 (tt_i2l ha0) (0) 0 (by decide) (3) 3 (by decide)) q_m1324 q_s1325 q_i11 q_c1326 hvX10_in ⟨(Nat.le_of_ble_eq_true rfl), (Nat.le_of_ble_eq_true rfl)⟩ ⟨(Nat.le_of_ble_eq_true rfl), (Nat.le_of_ble_eq_true rfl)⟩ hK hP rfl hl.1 rfl (Nat.le_of_ble_eq_true rfl) dX10_isMends_13 (fun r4 p5 => ?_)
    rcases p5 with ⟨e9, f6, f7⟩ | ⟨e9, fn8⟩
    · subst e9
      refine lv_if_eq (tgt := 23) hx hb dX10_isMends_16 (by decide) (fun c9 => absurd c9 (by decide)) (fun c9 => ?_)
      refine lv_iconst (v := 1) hx hb dX10_isMends_19 (by decide) ?_
      refine lv_goto (tgt := 24) hx hb dX10_isMends_20 (by decide) ?_
      exact hret _ _ (1 : Int32) dX10_isMends_24 rfl (Or.inl ⟨rfl, by omega, by omega⟩)
    · subst e9
      refine lv_if_eq (tgt := 23) hx hb dX10_isMends_16 (by decide) (fun c10 => ?_) (fun c10 => absurd c10 (by decide))
      refine lv_iconst (v := 0) hx hb dX10_isMends_23 (by decide) ?_
      exact hret _ _ (0 : Int32) dX10_isMends_24 rfl (Or.inr rfl)
set_option maxHeartbeats 4000000 in
set_option maxRecDepth 100000 in
theorem kX10_mended_0 (l : Launch) (D : va_G) (C : Nat → ClassId) (A : Nat → Nat) (u : St) (hI : IM u) (a0 : Int32) (A0 : Int) (ha0 : a0.toInt = A0) (sz : Nat) : MetI l yX10_mended cX10_mended 2 (some .int) 12 [.ref (A 0), .int a0] D (tyl C) (mw C A) X0 u sz (fun r u' => IM u' ∧ Un [(0, 0), (24, 24), (25, 25), (28, 28), (29, 29), (30, 30)] [(12, 12), (13, 13), (14, 14), (15, 15)] [] u u' ∧ (True)) := by
  refine mI (by decide) (Nat.le_of_ble_eq_true rfl) ?_
  intro p e s m below meth c ls ar Q hx hb hml hown hts hK hH hX hl hret
  have hown : s.vm.findClass RX10 = some m.cls := hown
  have hl : lv_has ls 2 [(0, .ref (A 0)), (1, .int a0)] := hl
  refine lv_aload_n hx hb dX10_mended_0 rfl (lv_at hl 0 rfl) ?_
  refine lv_iconst (v := 0) hx hb dX10_mended_1 (by decide) ?_
  refine r_put (j := 0) (ci := 10) (C := RX10) (T := TX10) (N := 42) hx hb hts (fun w h => uc_in w (inX10 w h)) tyX10 tyX10_ok nmX10 hown hK hH 0 (mwc0 C A u) rfl 0 (by decide) (hts _ (uc_in _ q_f1188)) (fun _ h9 => h9) rfl (by decide +kernel) (Nat.le_of_ble_eq_true rfl) (mws0 C A u _) dX10_mended_2 (fun u1 eu1 H locs hH => ?_)
  have hI := hI.pi0 eu1 rfl
  refine lv_aload_n hx hb dX10_mended_5 rfl (lv_at hl 0 rfl) ?_
  refine lv_iload_n hx hb dX10_mended_6 rfl (lv_at hl 1 rfl) ?_
  refine cvS (n := 1) (As := [.int a0]) (rest := []) ⟨hx, hb, hml, hown, hts⟩ uc_in (kX10_isMends_0 l D C A u1 hI a0 A0 ha0) q_m1690 q_n1692 q_p93 q_i11 q_c1693 hvX10_isMends ⟨(Nat.le_of_ble_eq_true rfl), (Nat.le_of_ble_eq_true rfl)⟩ ⟨(Nat.le_of_ble_eq_true rfl), (Nat.le_of_ble_eq_true rfl)⟩ hK hH.1 10 0 rfl (mwc0 C A u1) rfl hl.1 rfl (Nat.le_of_ble_eq_true rfl) dX10_mended_7 (fun r2 p3 => ?_)
  rcases p3 with ⟨e9, f4, f5⟩ | e9
  · subst e9
    refine lv_if_ne (tgt := 16) hx hb dX10_mended_10 (by decide) (fun c6 => ?_) (fun c6 => absurd c6 (by decide))
    refine lv_aload_n hx hb dX10_mended_16 rfl (lv_at hl 0 rfl) ?_
    refine lv_iload_n hx hb dX10_mended_17 rfl (lv_at hl 1 rfl) ?_
    refine lv_iconst (v := (-1)) hx hb dX10_mended_18 (by decide) ?_
    refine cvU (n := 2) (As := [.int a0, .int (-1)]) (rest := []) ⟨hx, hb, hml, hown, hts⟩ uc_in (kX10_laysMends_0 l D C A u1 hI a0 A0 ha0 (-1) (-1) (by decide) (by omega) (by omega) _) q_m1694 q_n1696 q_p94 q_i11 q_c1697 hvX10_laysMends ⟨(Nat.le_of_ble_eq_true rfl), (Nat.le_of_ble_eq_true rfl)⟩ ⟨(Nat.le_of_ble_eq_true rfl), (Nat.le_of_ble_eq_true rfl)⟩ hK hH (fun q h => Or.inr h) Bl0 (fun _ _ _ => trivial) 10 0 rfl (mwc0 C A u1) rfl hl.1 rfl (Nat.le_of_ble_eq_true rfl) dX10_mended_19 (fun u7 H locs p9 hH => ?_)
    obtain ⟨hI, hUu7, p9⟩ := p9
    refine lv_aload_n hx hb dX10_mended_22 rfl (lv_at hl 0 rfl) ?_
    refine va_get (ci := 10) (v := .int (gi u7 29)) (C := RX10) (T := TX10) (N := 42) hx hb hts (fun w h => uc_in w (inX10 w h)) hown hK hH.1 0 (mwc0 C A u7) rfl 29 (by decide) (hts _ (uc_in _ q_f1217)) (fun _ h9 => h9) rfl dX10_mended_23 ?_
    exact hret _ _ _ _ (gi u7 29) _ dX10_mended_26 rfl ⟨hI, (Un.tr (Un.si Un.rf rfl eu1) hUu7 rfl rfl rfl), trivial⟩ hH
  · subst e9
    refine lv_if_ne (tgt := 16) hx hb dX10_mended_10 (by decide) (fun c10 => absurd c10 (by decide)) (fun c10 => ?_)
    refine lv_bipush (v := (-2)) hx hb dX10_mended_13 (by decide) ?_
    exact hret _ _ _ _ ((-2) : Int32) _ dX10_mended_15 rfl ⟨hI, (Un.si Un.rf rfl eu1), trivial⟩ hH
set_option maxHeartbeats 4000000 in
set_option maxRecDepth 100000 in
theorem kX10_mends_0 (l : Launch) (D : va_G) (C : Nat → ClassId) (A : Nat → Nat) (u : St) (hI : IM u) (a0 : Int32) (A0 : Int) (ha0 : a0.toInt = A0) (sz : Nat) : MetI l yX10_mends cX10_mends 2 (some .int) 12 [.ref (A 0), .int a0] D (tyl C) (mw C A) X0 u sz (fun r u' => IM u' ∧ Un [(0, 0), (24, 24), (25, 25), (28, 28), (29, 29), (30, 30)] [(12, 12), (13, 13), (14, 14), (15, 15)] [] u u' ∧ (True)) := by
  refine mI (by decide) (Nat.le_of_ble_eq_true rfl) ?_
  intro p e s m below meth c ls ar Q hx hb hml hown hts hK hH hX hl hret
  have hown : s.vm.findClass RX10 = some m.cls := hown
  have hl : lv_has ls 2 [(0, .ref (A 0)), (1, .int a0)] := hl
  refine lv_aload_n hx hb dX10_mends_0 rfl (lv_at hl 0 rfl) ?_
  refine lv_iconst (v := 0) hx hb dX10_mends_1 (by decide) ?_
  refine r_put (j := 0) (ci := 10) (C := RX10) (T := TX10) (N := 42) hx hb hts (fun w h => uc_in w (inX10 w h)) tyX10 tyX10_ok nmX10 hown hK hH 0 (mwc0 C A u) rfl 0 (by decide) (hts _ (uc_in _ q_f1188)) (fun _ h9 => h9) rfl (by decide +kernel) (Nat.le_of_ble_eq_true rfl) (mws0 C A u _) dX10_mends_2 (fun u1 eu1 H locs hH => ?_)
  have hI := hI.pi0 eu1 rfl
  refine lv_aload_n hx hb dX10_mends_5 rfl (lv_at hl 0 rfl) ?_
  refine lv_iload_n hx hb dX10_mends_6 rfl (lv_at hl 1 rfl) ?_
  refine cvS (n := 1) (As := [.int a0]) (rest := []) ⟨hx, hb, hml, hown, hts⟩ uc_in (kX10_isMends_0 l D C A u1 hI a0 A0 ha0) q_m1690 q_n1692 q_p93 q_i11 q_c1693 hvX10_isMends ⟨(Nat.le_of_ble_eq_true rfl), (Nat.le_of_ble_eq_true rfl)⟩ ⟨(Nat.le_of_ble_eq_true rfl), (Nat.le_of_ble_eq_true rfl)⟩ hK hH.1 10 0 rfl (mwc0 C A u1) rfl hl.1 rfl (Nat.le_of_ble_eq_true rfl) dX10_mends_7 (fun r2 p3 => ?_)
  rcases p3 with ⟨e9, f4, f5⟩ | e9
  · subst e9
    refine lv_if_ne (tgt := 16) hx hb dX10_mends_10 (by decide) (fun c6 => ?_) (fun c6 => absurd c6 (by decide))
    refine lv_aload_n hx hb dX10_mends_16 rfl (lv_at hl 0 rfl) ?_
    refine lv_iload_n hx hb dX10_mends_17 rfl (lv_at hl 1 rfl) ?_
    refine lv_iconst (v := (-1)) hx hb dX10_mends_18 (by decide) ?_
    refine cvU (n := 2) (As := [.int a0, .int (-1)]) (rest := []) ⟨hx, hb, hml, hown, hts⟩ uc_in (kX10_laysMends_0 l D C A u1 hI a0 A0 ha0 (-1) (-1) (by decide) (by omega) (by omega) _) q_m1694 q_n1696 q_p94 q_i11 q_c1697 hvX10_laysMends ⟨(Nat.le_of_ble_eq_true rfl), (Nat.le_of_ble_eq_true rfl)⟩ ⟨(Nat.le_of_ble_eq_true rfl), (Nat.le_of_ble_eq_true rfl)⟩ hK hH (fun q h => Or.inr h) Bl0 (fun _ _ _ => trivial) 10 0 rfl (mwc0 C A u1) rfl hl.1 rfl (Nat.le_of_ble_eq_true rfl) dX10_mends_19 (fun u7 H locs p9 hH => ?_)
    obtain ⟨hI, hUu7, p9⟩ := p9
    refine lv_aload_n hx hb dX10_mends_22 rfl (lv_at hl 0 rfl) ?_
    refine va_get (ci := 10) (v := .int (gi u7 28)) (C := RX10) (T := TX10) (N := 42) hx hb hts (fun w h => uc_in w (inX10 w h)) hown hK hH.1 0 (mwc0 C A u7) rfl 28 (by decide) (hts _ (uc_in _ q_f1216)) (fun _ h9 => h9) rfl dX10_mends_23 ?_
    exact hret _ _ _ _ (gi u7 28) _ dX10_mends_26 rfl ⟨hI, (Un.tr (Un.si Un.rf rfl eu1) hUu7 rfl rfl rfl), trivial⟩ hH
  · subst e9
    refine lv_if_ne (tgt := 16) hx hb dX10_mends_10 (by decide) (fun c10 => absurd c10 (by decide)) (fun c10 => ?_)
    refine lv_bipush (v := (-2)) hx hb dX10_mends_13 (by decide) ?_
    exact hret _ _ _ _ ((-2) : Int32) _ dX10_mends_15 rfl ⟨hI, (Un.si Un.rf rfl eu1), trivial⟩ hH
set_option maxHeartbeats 4000000 in
set_option maxRecDepth 100000 in
theorem kX10_middle_0 (l : Launch) (D : va_G) (C : Nat → ClassId) (A : Nat → Nat) (u : St) (hI : IM u) (a0 : Int32) (A0 : Int) (ha0 : a0.toInt = A0) (sz : Nat) : MetI l yX10_middle cX10_middle 3 (some .int) 4 [.ref (A 0), .int a0] D (tyl C) (mw C A) X0 u sz (fun r u' => IM u' ∧ Un [(0, 0), (24, 24), (25, 25)] [(12, 12), (13, 13)] [] u u' ∧ (True)) := by
  refine mI (by decide) (Nat.le_of_ble_eq_true rfl) ?_
  intro p e s m below meth c ls ar Q hx hb hml hown hts hK hH hX hl hret
  have hown : s.vm.findClass RX10 = some m.cls := hown
  have hl : lv_has ls 3 [(0, .ref (A 0)), (1, .int a0)] := hl
  refine lv_aload_n hx hb dX10_middle_0 rfl (lv_at hl 0 rfl) ?_
  refine lv_iconst (v := 0) hx hb dX10_middle_1 (by decide) ?_
  refine r_put (j := 0) (ci := 10) (C := RX10) (T := TX10) (N := 42) hx hb hts (fun w h => uc_in w (inX10 w h)) tyX10 tyX10_ok nmX10 hown hK hH 0 (mwc0 C A u) rfl 0 (by decide) (hts _ (uc_in _ q_f1188)) (fun _ h9 => h9) rfl (by decide +kernel) (Nat.le_of_ble_eq_true rfl) (mws0 C A u _) dX10_middle_2 (fun u1 eu1 H locs hH => ?_)
  have hI := hI.pi0 eu1 rfl
  refine lv_aload_n hx hb dX10_middle_5 rfl (lv_at hl 0 rfl) ?_
  refine lv_iload_n hx hb dX10_middle_6 rfl (lv_at hl 1 rfl) ?_
  refine lv_i2l (v := a0.toInt64) hx hb dX10_middle_7 rfl ?_
  refine cvS (n := 1) (As := [.long a0.toInt64]) (rest := []) ⟨hx, hb, hml, hown, hts⟩ uc_in (kX10_isDay_0 l D C A u1 hI a0.toInt64 A0 (tt_i2l ha0)) q_m1473 q_n1475 q_p73 q_i11 q_c1476 hvX10_isDay ⟨(Nat.le_of_ble_eq_true rfl), (Nat.le_of_ble_eq_true rfl)⟩ ⟨(Nat.le_of_ble_eq_true rfl), (Nat.le_of_ble_eq_true rfl)⟩ hK hH.1 10 0 rfl (mwc0 C A u1) rfl hl.1 rfl (Nat.le_of_ble_eq_true rfl) dX10_middle_8 (fun r2 p3 => ?_)
  rcases p3 with ⟨e9, f4, f5⟩ | e9
  · subst e9
    have b7 : 0 ≤ ((ga u1 7 0)).toInt ∧ ((ga u1 7 0)).toInt ≤ 7 := hI.has 0
    refine lv_if_ne (tgt := 18) hx hb dX10_middle_11 (by decide) (fun c8 => ?_) (fun c8 => absurd c8 (by decide))
    refine lv_aload_n hx hb dX10_middle_18 rfl (lv_at hl 0 rfl) ?_
    refine cvU (n := 0) (As := []) (rest := []) ⟨hx, hb, hml, hown, hts⟩ uc_in (kX10_lays_0 l D C A u1 hI  _) q_m1481 q_n1483 q_p75 q_i11 q_c1484 hvX10_lays ⟨(Nat.le_of_ble_eq_true rfl), (Nat.le_of_ble_eq_true rfl)⟩ ⟨(Nat.le_of_ble_eq_true rfl), (Nat.le_of_ble_eq_true rfl)⟩ hK hH (fun q h => Or.inr h) Bl0 (fun _ _ _ => trivial) 10 0 rfl (mwc0 C A u1) rfl hl.1 rfl (Nat.le_of_ble_eq_true rfl) dX10_middle_19 (fun u9 H locs p11 hH => ?_)
    obtain ⟨hI, hUu9, p11⟩ := p11
    refine lv_aload_n hx hb dX10_middle_22 rfl (lv_at hl 0 rfl) ?_
    refine lv_iload_n hx hb dX10_middle_23 rfl (lv_at hl 1 rfl) ?_
    refine cvS (n := 1) (As := [.int a0]) (rest := []) ⟨hx, hb, hml, hown, hts⟩ uc_in (kX10_countsOf_0 l D C A u9 hI a0 A0 ha0 (by omega) (by omega)) q_m1500 q_n1502 q_p78 q_i11 q_c1503 hvX10_countsOf ⟨(Nat.le_of_ble_eq_true rfl), (Nat.le_of_ble_eq_true rfl)⟩ ⟨(Nat.le_of_ble_eq_true rfl), (Nat.le_of_ble_eq_true rfl)⟩ hK hH.1 10 0 rfl (mwc0 C A u9) rfl hl.1 rfl (Nat.le_of_ble_eq_true rfl) dX10_middle_24 (fun r12 p13 => ?_)
    have g14 : (ga u9 7 3).toInt ≤ 6 := (hI.has 3).2
    have br12 : 0 ≤ r12.toInt ∧ r12.toInt ≤ 63 := ⟨p13.1, p13.2.1⟩
    refine csS (n := 1) (As := [.int r12]) (rest := []) ⟨hx, hb, hml, hown, hts⟩ uc_in (kX10_sizeOf_0 l D C A u9 hI r12 r12.toInt rfl) q_m1582 q_s1583 q_i11 q_c1584 hvX10_sizeOf ⟨(Nat.le_of_ble_eq_true rfl), (Nat.le_of_ble_eq_true rfl)⟩ ⟨(Nat.le_of_ble_eq_true rfl), (Nat.le_of_ble_eq_true rfl)⟩ hK hH.1 rfl hl.1 rfl (Nat.le_of_ble_eq_true rfl) dX10_middle_27 (fun r15 p16 => ?_)
    have p16 := p16 (by omega) (by omega)
    have br15 := pc_bd p16
    refine lv_istore_n (lv' := [(2, .int r15), (0, .ref (A 0)), (1, .int a0)]) hx hb dX10_middle_30 rfl hl (by decide) rfl (fun ls hl => ?_)
    refine lv_iload_n hx hb dX10_middle_31 rfl (lv_at hl 0 rfl) ?_
    refine lv_if_ne (tgt := 41) hx hb dX10_middle_32 (by decide) (fun c17 => ?_) (fun c17 => ?_)
    · have c17 := cNE (x := r15) (y := 0) (X := r15.toInt) (Y := 0) rfl (by decide) c17
      refine lv_aload_n hx hb dX10_middle_41 rfl (lv_at hl 1 rfl) ?_
      refine va_get (ci := 10) (v := .ref (A 12)) (C := RX10) (T := TX10) (N := 42) hx hb hts (fun w h => uc_in w (inX10 w h)) hown hK hH.1 0 (mwc0 C A u9) rfl 22 (by decide) (hts _ (uc_in _ q_f1210)) (fun _ h9 => h9) rfl dX10_middle_42 ?_
      refine lv_bipush (v := 6) hx hb dX10_middle_45 (by decide) ?_
      refine lv_iload_n hx hb dX10_middle_47 rfl (lv_at hl 2 rfl) ?_
      refine lv_imul hx hb dX10_middle_48 ?_
      refine p_nm (tt_mul (X := 6) (Y := A0) (by decide) ha0 (by omega) (by omega)) (fun z18 hz18 => ?_)
      refine lv_aload_n hx hb dX10_middle_49 rfl (lv_at hl 1 rfl) ?_
      refine lv_iload_n hx hb dX10_middle_50 rfl (lv_at hl 2 rfl) ?_
      refine lv_iload_n hx hb dX10_middle_51 rfl (lv_at hl 0 rfl) ?_
      refine lv_iconst (v := 1) hx hb dX10_middle_52 (by decide) ?_
      refine lv_isub hx hb dX10_middle_53 ?_
      refine p_nm (tt_sub (X := r15.toInt) (Y := 1) rfl (by decide) (by omega) (by omega)) (fun z19 hz19 => ?_)
      refine lv_iconst (v := 2) hx hb dX10_middle_54 (by decide) ?_
      refine lv_idiv hx hb dX10_middle_55 (by decide) ?_
      refine p_nm (tt_div 2 hz19 (by decide) (by omega) (by decide)) (fun z20 hz20 => ?_)
      refine cvS (n := 2) (As := [.int a0, .int z20]) (rest := [.int z18, .ref (A 12)]) ⟨hx, hb, hml, hown, hts⟩ uc_in (kX10_orderOf_0 l D C A u9 hI a0 A0 ha0 z20 ((r15.toInt - 1) / 2) hz20 (by omega) (by omega)) q_m1524 q_n1526 q_p81 q_i11 q_c1527 hvX10_orderOf ⟨(Nat.le_of_ble_eq_true rfl), (Nat.le_of_ble_eq_true rfl)⟩ ⟨(Nat.le_of_ble_eq_true rfl), (Nat.le_of_ble_eq_true rfl)⟩ hK hH.1 10 0 rfl (mwc0 C A u9) rfl hl.1 rfl (Nat.le_of_ble_eq_true rfl) dX10_middle_56 (fun r21 p22 => ?_)
      have br21 := p22.1
      have qr15 : r15.toInt = (pcN r12.toInt.toNat : Int) := by rw [p16]; exact nI_toInt (by have := pcN_le r12.toInt.toNat; omega)
      have gr21 : 0 ≤ r21.toInt := ord_pos (v := u9) (D := A0) (I := ((r15.toInt - 1) / 2)) (x := r12) (by rw [p13.2.2.2]; exact p22.2) p13.2.2.1 p13.1 p13.2.1 g14 (by omega) (by omega)
      refine lv_iadd hx hb dX10_middle_59 ?_
      refine p_nm (tt_add (X := (6 * A0)) (Y := r21.toInt) hz18 rfl (by omega) (by omega)) (fun z23 hz23 => ?_)
      refine va_iald hx hb hK hH.1 12 1 (mwc12 C A u9) rfl (i_ix hz23 (by omega) (by omega)) dX10_middle_60 ?_
      refine p_any (fun z24 => ?_)
      exact hret _ _ _ _ z24 _ dX10_middle_61 rfl ⟨hI, (Un.tr (Un.si Un.rf rfl eu1) hUu9 rfl rfl rfl), trivial⟩ hH
    · have c17 := cEQ (x := r15) (y := 0) (X := r15.toInt) (Y := 0) rfl (by decide) c17
      refine lv_sipush (v := 10000) hx hb dX10_middle_35 (by decide) ?_
      refine lv_goto (tgt := 61) hx hb dX10_middle_38 (by decide) ?_
      exact hret _ _ _ _ (10000 : Int32) _ dX10_middle_61 rfl ⟨hI, (Un.tr (Un.si Un.rf rfl eu1) hUu9 rfl rfl rfl), trivial⟩ hH
  · subst e9
    refine lv_if_ne (tgt := 18) hx hb dX10_middle_11 (by decide) (fun c25 => absurd c25 (by decide)) (fun c25 => ?_)
    refine lv_sipush (v := (-1000)) hx hb dX10_middle_14 (by decide) ?_
    exact hret _ _ _ _ ((-1000) : Int32) _ dX10_middle_17 rfl ⟨hI, (Un.si Un.rf rfl eu1), trivial⟩ hH
set_option maxHeartbeats 4000000 in
set_option maxRecDepth 100000 in
theorem kX10_noon_0 (l : Launch) (D : va_G) (C : Nat → ClassId) (A : Nat → Nat) (u : St) (hI : IM u) (a0 : Int32) (A0 : Int) (ha0 : a0.toInt = A0) (sz : Nat) : MetI l yX10_noon cX10_noon 2 (some .int) 5 [.ref (A 0), .int a0] D (tyl C) (mw C A) X0 u sz (fun r u' => IM u' ∧ Un [(0, 0), (24, 24), (25, 25)] [(12, 12), (13, 13)] [] u u' ∧ (True)) := by
  refine mI (by decide) (Nat.le_of_ble_eq_true rfl) ?_
  intro p e s m below meth c ls ar Q hx hb hml hown hts hK hH hX hl hret
  have hown : s.vm.findClass RX10 = some m.cls := hown
  have hl : lv_has ls 2 [(0, .ref (A 0)), (1, .int a0)] := hl
  refine lv_aload_n hx hb dX10_noon_0 rfl (lv_at hl 0 rfl) ?_
  refine lv_iconst (v := 0) hx hb dX10_noon_1 (by decide) ?_
  refine r_put (j := 0) (ci := 10) (C := RX10) (T := TX10) (N := 42) hx hb hts (fun w h => uc_in w (inX10 w h)) tyX10 tyX10_ok nmX10 hown hK hH 0 (mwc0 C A u) rfl 0 (by decide) (hts _ (uc_in _ q_f1188)) (fun _ h9 => h9) rfl (by decide +kernel) (Nat.le_of_ble_eq_true rfl) (mws0 C A u _) dX10_noon_2 (fun u1 eu1 H locs hH => ?_)
  have hI := hI.pi0 eu1 rfl
  refine lv_aload_n hx hb dX10_noon_5 rfl (lv_at hl 0 rfl) ?_
  refine lv_iload_n hx hb dX10_noon_6 rfl (lv_at hl 1 rfl) ?_
  refine lv_i2l (v := a0.toInt64) hx hb dX10_noon_7 rfl ?_
  refine cvS (n := 1) (As := [.long a0.toInt64]) (rest := []) ⟨hx, hb, hml, hown, hts⟩ uc_in (kX10_isDay_0 l D C A u1 hI a0.toInt64 A0 (tt_i2l ha0)) q_m1473 q_n1475 q_p73 q_i11 q_c1476 hvX10_isDay ⟨(Nat.le_of_ble_eq_true rfl), (Nat.le_of_ble_eq_true rfl)⟩ ⟨(Nat.le_of_ble_eq_true rfl), (Nat.le_of_ble_eq_true rfl)⟩ hK hH.1 10 0 rfl (mwc0 C A u1) rfl hl.1 rfl (Nat.le_of_ble_eq_true rfl) dX10_noon_8 (fun r2 p3 => ?_)
  rcases p3 with ⟨e9, f4, f5⟩ | e9
  · subst e9
    have b7 : 0 ≤ ((ga u1 7 0)).toInt ∧ ((ga u1 7 0)).toInt ≤ 7 := hI.has 0
    refine lv_if_ne (tgt := 18) hx hb dX10_noon_11 (by decide) (fun c8 => ?_) (fun c8 => absurd c8 (by decide))
    refine lv_aload_n hx hb dX10_noon_18 rfl (lv_at hl 0 rfl) ?_
    refine cvU (n := 0) (As := []) (rest := []) ⟨hx, hb, hml, hown, hts⟩ uc_in (kX10_lays_0 l D C A u1 hI  _) q_m1481 q_n1483 q_p75 q_i11 q_c1484 hvX10_lays ⟨(Nat.le_of_ble_eq_true rfl), (Nat.le_of_ble_eq_true rfl)⟩ ⟨(Nat.le_of_ble_eq_true rfl), (Nat.le_of_ble_eq_true rfl)⟩ hK hH (fun q h => Or.inr h) Bl0 (fun _ _ _ => trivial) 10 0 rfl (mwc0 C A u1) rfl hl.1 rfl (Nat.le_of_ble_eq_true rfl) dX10_noon_19 (fun u9 H locs p11 hH => ?_)
    obtain ⟨hI, hUu9, p11⟩ := p11
    refine lv_aload_n hx hb dX10_noon_22 rfl (lv_at hl 0 rfl) ?_
    refine lv_iload_n hx hb dX10_noon_23 rfl (lv_at hl 1 rfl) ?_
    refine cvS (n := 1) (As := [.int a0]) (rest := []) ⟨hx, hb, hml, hown, hts⟩ uc_in (kX10_noonOf__0 l D C A u9 hI a0 A0 ha0 (by omega) (by omega)) q_m1496 q_n1498 q_p77 q_i11 q_c1499 hvX10_noonOf_ ⟨(Nat.le_of_ble_eq_true rfl), (Nat.le_of_ble_eq_true rfl)⟩ ⟨(Nat.le_of_ble_eq_true rfl), (Nat.le_of_ble_eq_true rfl)⟩ hK hH.1 10 0 rfl (mwc0 C A u9) rfl hl.1 rfl (Nat.le_of_ble_eq_true rfl) dX10_noon_24 (fun r12 p13 => ?_)
    exact hret _ _ _ _ r12 _ dX10_noon_27 rfl ⟨hI, (Un.tr (Un.si Un.rf rfl eu1) hUu9 rfl rfl rfl), trivial⟩ hH
  · subst e9
    refine lv_if_ne (tgt := 18) hx hb dX10_noon_11 (by decide) (fun c14 => absurd c14 (by decide)) (fun c14 => ?_)
    refine lv_sipush (v := (-1000)) hx hb dX10_noon_14 (by decide) ?_
    exact hret _ _ _ _ ((-1000) : Int32) _ dX10_noon_17 rfl ⟨hI, (Un.si Un.rf rfl eu1), trivial⟩ hH
set_option maxHeartbeats 4000000 in
set_option maxRecDepth 100000 in
theorem kX10_oil_0 (l : Launch) (D : va_G) (C : Nat → ClassId) (A : Nat → Nat) (u : St) (hI : IM u) (a0 : Int32) (A0 : Int) (ha0 : a0.toInt = A0) (a1 : Int32) (A1 : Int) (ha1 : a1.toInt = A1) (sz : Nat) : MetI l yX10_oil cX10_oil 3 (some .int) 5 [.ref (A 0), .int a0, .int a1] D (tyl C) (mw C A) X0 u sz (fun r u' => IM u' ∧ Un [(0, 0), (24, 24), (25, 25)] [(7, 7), (10, 10), (12, 12), (13, 13)] [] u u' ∧ (True)) := by
  refine mI (by decide) (Nat.le_of_ble_eq_true rfl) ?_
  intro p e s m below meth c ls ar Q hx hb hml hown hts hK hH hX hl hret
  have hown : s.vm.findClass RX10 = some m.cls := hown
  have hl : lv_has ls 3 [(0, .ref (A 0)), (1, .int a0), (2, .int a1)] := hl
  refine lv_aload_n hx hb dX10_oil_0 rfl (lv_at hl 0 rfl) ?_
  refine lv_iconst (v := 0) hx hb dX10_oil_1 (by decide) ?_
  refine r_put (j := 0) (ci := 10) (C := RX10) (T := TX10) (N := 42) hx hb hts (fun w h => uc_in w (inX10 w h)) tyX10 tyX10_ok nmX10 hown hK hH 0 (mwc0 C A u) rfl 0 (by decide) (hts _ (uc_in _ q_f1188)) (fun _ h9 => h9) rfl (by decide +kernel) (Nat.le_of_ble_eq_true rfl) (mws0 C A u _) dX10_oil_2 (fun u1 eu1 H locs hH => ?_)
  have hI := hI.pi0 eu1 rfl
  refine lv_aload_n hx hb dX10_oil_5 rfl (lv_at hl 0 rfl) ?_
  refine lv_iload_n hx hb dX10_oil_6 rfl (lv_at hl 1 rfl) ?_
  refine lv_i2l (v := a0.toInt64) hx hb dX10_oil_7 rfl ?_
  refine cvS (n := 1) (As := [.long a0.toInt64]) (rest := []) ⟨hx, hb, hml, hown, hts⟩ uc_in (kX10_isClock_0 l D C A u1 hI a0.toInt64 A0 (tt_i2l ha0)) q_m1460 q_n1462 q_p71 q_i11 q_c1463 hvX10_isClock ⟨(Nat.le_of_ble_eq_true rfl), (Nat.le_of_ble_eq_true rfl)⟩ ⟨(Nat.le_of_ble_eq_true rfl), (Nat.le_of_ble_eq_true rfl)⟩ hK hH.1 10 0 rfl (mwc0 C A u1) rfl hl.1 rfl (Nat.le_of_ble_eq_true rfl) dX10_oil_8 (fun r2 p3 => ?_)
  rcases p3 with ⟨e9, f4, f5⟩ | e9
  · subst e9
    have b7 : 0 ≤ ((ga u1 7 3)).toInt ∧ ((ga u1 7 3)).toInt ≤ 6 := hI.has 3
    refine lv_if_eq (tgt := 33) hx hb dX10_oil_11 (by decide) (fun c8 => absurd c8 (by decide)) (fun c8 => ?_)
    refine lv_aload_n hx hb dX10_oil_14 rfl (lv_at hl 0 rfl) ?_
    refine lv_iload_n hx hb dX10_oil_15 rfl (lv_at hl 2 rfl) ?_
    refine lv_i2l (v := a1.toInt64) hx hb dX10_oil_16 rfl ?_
    refine cvS (n := 1) (As := [.long a1.toInt64]) (rest := []) ⟨hx, hb, hml, hown, hts⟩ uc_in (kX10_isDay_0 l D C A u1 hI a1.toInt64 A1 (tt_i2l ha1)) q_m1473 q_n1475 q_p73 q_i11 q_c1476 hvX10_isDay ⟨(Nat.le_of_ble_eq_true rfl), (Nat.le_of_ble_eq_true rfl)⟩ ⟨(Nat.le_of_ble_eq_true rfl), (Nat.le_of_ble_eq_true rfl)⟩ hK hH.1 10 0 rfl (mwc0 C A u1) rfl hl.1 rfl (Nat.le_of_ble_eq_true rfl) dX10_oil_17 (fun r9 p10 => ?_)
    rcases p10 with ⟨e9, f11, f12⟩ | e9
    · subst e9
      have b14 : 0 ≤ ((ga u1 7 0)).toInt ∧ ((ga u1 7 0)).toInt ≤ 7 := hI.has 0
      refine lv_if_eq (tgt := 33) hx hb dX10_oil_20 (by decide) (fun c15 => absurd c15 (by decide)) (fun c15 => ?_)
      refine lv_aload_n hx hb dX10_oil_23 rfl (lv_at hl 0 rfl) ?_
      refine lv_iconst (v := 1) hx hb dX10_oil_24 (by decide) ?_
      refine lv_iload_n hx hb dX10_oil_25 rfl (lv_at hl 1 rfl) ?_
      refine lv_iload_n hx hb dX10_oil_26 rfl (lv_at hl 2 rfl) ?_
      refine cvI (n := 3) (As := [.int 1, .int a0, .int a1]) (rest := []) ⟨hx, hb, hml, hown, hts⟩ uc_in (kX10_acts_0 l D C A u1 hI (1) 1 (by decide) a0 A0 ha0 a1 A1 ha1 (by omega) (by omega) (by omega) (by omega) _) q_m1871 q_n1873 q_p111 q_i11 q_c1874 hvX10_acts ⟨(Nat.le_of_ble_eq_true rfl), (Nat.le_of_ble_eq_true rfl)⟩ ⟨(Nat.le_of_ble_eq_true rfl), (Nat.le_of_ble_eq_true rfl)⟩ hK hH (fun q h => Or.inr h) Bl0 (fun _ _ _ => trivial) 10 0 rfl (mwc0 C A u1) rfl hl.1 rfl (Nat.le_of_ble_eq_true rfl) dX10_oil_27 (fun r17 u16 H locs p18 hH => ?_)
      obtain ⟨hI, hUu16, p18⟩ := p18
      refine lv_goto (tgt := 36) hx hb dX10_oil_30 (by decide) ?_
      exact hret _ _ _ _ r17 _ dX10_oil_36 rfl ⟨hI, (Un.tr (Un.si Un.rf rfl eu1) hUu16 rfl rfl rfl), trivial⟩ hH
    · subst e9
      refine lv_if_eq (tgt := 33) hx hb dX10_oil_20 (by decide) (fun c19 => ?_) (fun c19 => absurd c19 (by decide))
      refine lv_sipush (v := (-1000)) hx hb dX10_oil_33 (by decide) ?_
      exact hret _ _ _ _ ((-1000) : Int32) _ dX10_oil_36 rfl ⟨hI, (Un.si Un.rf rfl eu1), trivial⟩ hH
  · subst e9
    refine lv_if_eq (tgt := 33) hx hb dX10_oil_11 (by decide) (fun c20 => ?_) (fun c20 => absurd c20 (by decide))
    refine lv_sipush (v := (-1000)) hx hb dX10_oil_33 (by decide) ?_
    exact hret _ _ _ _ ((-1000) : Int32) _ dX10_oil_36 rfl ⟨hI, (Un.si Un.rf rfl eu1), trivial⟩ hH
set_option maxHeartbeats 4000000 in
set_option maxRecDepth 100000 in
theorem kX10_order_0 (l : Launch) (D : va_G) (C : Nat → ClassId) (A : Nat → Nat) (u : St) (hI : IM u) (a0 : Int32) (A0 : Int) (ha0 : a0.toInt = A0) (a1 : Int32) (A1 : Int) (ha1 : a1.toInt = A1) (sz : Nat) : MetI l yX10_order cX10_order 3 (some .int) 4 [.ref (A 0), .int a0, .int a1] D (tyl C) (mw C A) X0 u sz (fun r u' => IM u' ∧ Un [(0, 0), (24, 24), (25, 25)] [(12, 12), (13, 13)] [] u u' ∧ ((-2) ≤ r.toInt ∧ r.toInt ≤ 5)) := by
  refine mI (by decide) (Nat.le_of_ble_eq_true rfl) ?_
  intro p e s m below meth c ls ar Q hx hb hml hown hts hK hH hX hl hret
  have hown : s.vm.findClass RX10 = some m.cls := hown
  have hl : lv_has ls 3 [(0, .ref (A 0)), (1, .int a0), (2, .int a1)] := hl
  refine lv_aload_n hx hb dX10_order_0 rfl (lv_at hl 0 rfl) ?_
  refine lv_iconst (v := 0) hx hb dX10_order_1 (by decide) ?_
  refine r_put (j := 0) (ci := 10) (C := RX10) (T := TX10) (N := 42) hx hb hts (fun w h => uc_in w (inX10 w h)) tyX10 tyX10_ok nmX10 hown hK hH 0 (mwc0 C A u) rfl 0 (by decide) (hts _ (uc_in _ q_f1188)) (fun _ h9 => h9) rfl (by decide +kernel) (Nat.le_of_ble_eq_true rfl) (mws0 C A u _) dX10_order_2 (fun u1 eu1 H locs hH => ?_)
  have hI := hI.pi0 eu1 rfl
  refine lv_aload_n hx hb dX10_order_5 rfl (lv_at hl 0 rfl) ?_
  refine lv_iload_n hx hb dX10_order_6 rfl (lv_at hl 1 rfl) ?_
  refine lv_i2l (v := a0.toInt64) hx hb dX10_order_7 rfl ?_
  refine cvS (n := 1) (As := [.long a0.toInt64]) (rest := []) ⟨hx, hb, hml, hown, hts⟩ uc_in (kX10_isDay_0 l D C A u1 hI a0.toInt64 A0 (tt_i2l ha0)) q_m1473 q_n1475 q_p73 q_i11 q_c1476 hvX10_isDay ⟨(Nat.le_of_ble_eq_true rfl), (Nat.le_of_ble_eq_true rfl)⟩ ⟨(Nat.le_of_ble_eq_true rfl), (Nat.le_of_ble_eq_true rfl)⟩ hK hH.1 10 0 rfl (mwc0 C A u1) rfl hl.1 rfl (Nat.le_of_ble_eq_true rfl) dX10_order_8 (fun r2 p3 => ?_)
  rcases p3 with ⟨e9, f4, f5⟩ | e9
  · subst e9
    have b7 : 0 ≤ ((ga u1 7 0)).toInt ∧ ((ga u1 7 0)).toInt ≤ 7 := hI.has 0
    refine lv_if_ne (tgt := 17) hx hb dX10_order_11 (by decide) (fun c8 => ?_) (fun c8 => absurd c8 (by decide))
    refine lv_aload_n hx hb dX10_order_17 rfl (lv_at hl 0 rfl) ?_
    refine cvU (n := 0) (As := []) (rest := []) ⟨hx, hb, hml, hown, hts⟩ uc_in (kX10_lays_0 l D C A u1 hI  _) q_m1481 q_n1483 q_p75 q_i11 q_c1484 hvX10_lays ⟨(Nat.le_of_ble_eq_true rfl), (Nat.le_of_ble_eq_true rfl)⟩ ⟨(Nat.le_of_ble_eq_true rfl), (Nat.le_of_ble_eq_true rfl)⟩ hK hH (fun q h => Or.inr h) Bl0 (fun _ _ _ => trivial) 10 0 rfl (mwc0 C A u1) rfl hl.1 rfl (Nat.le_of_ble_eq_true rfl) dX10_order_18 (fun u9 H locs p11 hH => ?_)
    obtain ⟨hI, hUu9, p11⟩ := p11
    refine lv_aload_n hx hb dX10_order_21 rfl (lv_at hl 0 rfl) ?_
    refine lv_iload_n hx hb dX10_order_22 rfl (lv_at hl 1 rfl) ?_
    refine lv_iload_n hx hb dX10_order_23 rfl (lv_at hl 2 rfl) ?_
    refine cvS (n := 2) (As := [.int a0, .int a1]) (rest := []) ⟨hx, hb, hml, hown, hts⟩ uc_in (kX10_orderOf_0 l D C A u9 hI a0 A0 ha0 a1 A1 ha1 (by omega) (by omega)) q_m1524 q_n1526 q_p81 q_i11 q_c1527 hvX10_orderOf ⟨(Nat.le_of_ble_eq_true rfl), (Nat.le_of_ble_eq_true rfl)⟩ ⟨(Nat.le_of_ble_eq_true rfl), (Nat.le_of_ble_eq_true rfl)⟩ hK hH.1 10 0 rfl (mwc0 C A u9) rfl hl.1 rfl (Nat.le_of_ble_eq_true rfl) dX10_order_24 (fun r12 p13 => ?_)
    have br12 := p13.1
    exact hret _ _ _ _ r12 _ dX10_order_27 rfl ⟨hI, (Un.tr (Un.si Un.rf rfl eu1) hUu9 rfl rfl rfl), ⟨by omega, by omega⟩⟩ hH
  · subst e9
    refine lv_if_ne (tgt := 17) hx hb dX10_order_11 (by decide) (fun c14 => absurd c14 (by decide)) (fun c14 => ?_)
    refine lv_bipush (v := (-2)) hx hb dX10_order_14 (by decide) ?_
    exact hret _ _ _ _ ((-2) : Int32) _ dX10_order_16 rfl ⟨hI, (Un.si Un.rf rfl eu1), ⟨by decide, by decide⟩⟩ hH
set_option maxHeartbeats 4000000 in
set_option maxRecDepth 100000 in
theorem kX10_passes_0 (l : Launch) (D : va_G) (C : Nat → ClassId) (A : Nat → Nat) (u : St) (hI : IM u) (a0 : Int32) (A0 : Int) (ha0 : a0.toInt = A0) (a1 : Int32) (A1 : Int) (ha1 : a1.toInt = A1) (sz : Nat) : MetI l yX10_passes cX10_passes 5 (some .int) 4 [.ref (A 0), .int a0, .int a1] D (tyl C) (mw C A) X0 u sz (fun r u' => IM u' ∧ Un [(0, 0), (24, 24), (25, 25)] [(12, 12), (13, 13)] [] u u' ∧ (True)) := by
  refine mI (by decide) (Nat.le_of_ble_eq_true rfl) ?_
  intro p e s m below meth c ls ar Q hx hb hml hown hts hK hH hX hl hret
  have hown : s.vm.findClass RX10 = some m.cls := hown
  have hl : lv_has ls 5 [(0, .ref (A 0)), (1, .int a0), (2, .int a1)] := hl
  refine lv_aload_n hx hb dX10_passes_0 rfl (lv_at hl 0 rfl) ?_
  refine lv_iconst (v := 0) hx hb dX10_passes_1 (by decide) ?_
  refine r_put (j := 0) (ci := 10) (C := RX10) (T := TX10) (N := 42) hx hb hts (fun w h => uc_in w (inX10 w h)) tyX10 tyX10_ok nmX10 hown hK hH 0 (mwc0 C A u) rfl 0 (by decide) (hts _ (uc_in _ q_f1188)) (fun _ h9 => h9) rfl (by decide +kernel) (Nat.le_of_ble_eq_true rfl) (mws0 C A u _) dX10_passes_2 (fun u1 eu1 H locs hH => ?_)
  have hI := hI.pi0 eu1 rfl
  refine lv_aload_n hx hb dX10_passes_5 rfl (lv_at hl 0 rfl) ?_
  refine lv_iload_n hx hb dX10_passes_6 rfl (lv_at hl 1 rfl) ?_
  refine lv_i2l (v := a0.toInt64) hx hb dX10_passes_7 rfl ?_
  refine cvS (n := 1) (As := [.long a0.toInt64]) (rest := []) ⟨hx, hb, hml, hown, hts⟩ uc_in (kX10_isClock_0 l D C A u1 hI a0.toInt64 A0 (tt_i2l ha0)) q_m1460 q_n1462 q_p71 q_i11 q_c1463 hvX10_isClock ⟨(Nat.le_of_ble_eq_true rfl), (Nat.le_of_ble_eq_true rfl)⟩ ⟨(Nat.le_of_ble_eq_true rfl), (Nat.le_of_ble_eq_true rfl)⟩ hK hH.1 10 0 rfl (mwc0 C A u1) rfl hl.1 rfl (Nat.le_of_ble_eq_true rfl) dX10_passes_8 (fun r2 p3 => ?_)
  rcases p3 with ⟨e9, f4, f5⟩ | e9
  · subst e9
    have b7 : 0 ≤ ((ga u1 7 3)).toInt ∧ ((ga u1 7 3)).toInt ≤ 6 := hI.has 3
    refine lv_if_eq (tgt := 23) hx hb dX10_passes_11 (by decide) (fun c8 => absurd c8 (by decide)) (fun c8 => ?_)
    refine lv_aload_n hx hb dX10_passes_14 rfl (lv_at hl 0 rfl) ?_
    refine lv_iload_n hx hb dX10_passes_15 rfl (lv_at hl 2 rfl) ?_
    refine lv_i2l (v := a1.toInt64) hx hb dX10_passes_16 rfl ?_
    refine cvS (n := 1) (As := [.long a1.toInt64]) (rest := []) ⟨hx, hb, hml, hown, hts⟩ uc_in (kX10_isClock_0 l D C A u1 hI a1.toInt64 A1 (tt_i2l ha1)) q_m1460 q_n1462 q_p71 q_i11 q_c1463 hvX10_isClock ⟨(Nat.le_of_ble_eq_true rfl), (Nat.le_of_ble_eq_true rfl)⟩ ⟨(Nat.le_of_ble_eq_true rfl), (Nat.le_of_ble_eq_true rfl)⟩ hK hH.1 10 0 rfl (mwc0 C A u1) rfl hl.1 rfl (Nat.le_of_ble_eq_true rfl) dX10_passes_17 (fun r9 p10 => ?_)
    rcases p10 with ⟨e9, f11, f12⟩ | e9
    · subst e9
      refine lv_if_ne (tgt := 26) hx hb dX10_passes_20 (by decide) (fun c13 => ?_) (fun c13 => absurd c13 (by decide))
      refine lv_aload_n hx hb dX10_passes_26 rfl (lv_at hl 0 rfl) ?_
      refine cvU (n := 0) (As := []) (rest := []) ⟨hx, hb, hml, hown, hts⟩ uc_in (kX10_lays_0 l D C A u1 hI  _) q_m1481 q_n1483 q_p75 q_i11 q_c1484 hvX10_lays ⟨(Nat.le_of_ble_eq_true rfl), (Nat.le_of_ble_eq_true rfl)⟩ ⟨(Nat.le_of_ble_eq_true rfl), (Nat.le_of_ble_eq_true rfl)⟩ hK hH (fun q h => Or.inr h) Bl0 (fun _ _ _ => trivial) 10 0 rfl (mwc0 C A u1) rfl hl.1 rfl (Nat.le_of_ble_eq_true rfl) dX10_passes_27 (fun u14 H locs p16 hH => ?_)
      obtain ⟨hI, hUu14, p16⟩ := p16
      refine lv_iconst (v := 0) hx hb dX10_passes_30 (by decide) ?_
      refine lv_istore_n (lv' := [(3, .int 0), (0, .ref (A 0)), (1, .int a0), (2, .int a1)]) hx hb dX10_passes_31 rfl hl (by decide) rfl (fun ls hl => ?_)
      refine lv_iconst (v := 0) hx hb dX10_passes_32 (by decide) ?_
      refine lv_istore (lv' := [(4, .int 0), (3, .int 0), (0, .ref (A 0)), (1, .int a0), (2, .int a1)]) hx hb dX10_passes_33 hl (by decide) rfl (fun ls hl => ?_)
      have lp35_177 : ∀ (n35 : Nat) (ls : Array Slot) (y176d : Int32) (y177d : Int32), 0 ≤ y176d.toInt → y176d.toInt ≤ 7 → 7 - y176d.toInt < (n35 : Int) → lv_has ls 5 [(4, .int y176d), (3, .int y177d), (0, .ref (A 0)), (1, .int a0), (2, .int a1)] → W p l e (rmL 4 0 0) s m ar below meth c H locs 0 0 Q (F0 m 35 ls []) := by
        intro n35
        induction n35 with
        | zero => intro ls y176d y177d ly176d my176d hmun35 hl; exfalso; omega
        | succ n35 ih35_177 =>
          intro ls y176d y177d ly176d my176d hmun35 hl
          refine lv_iload hx hb dX10_passes_35 (lv_at hl 0 rfl) ?_
          refine lv_aload_n hx hb dX10_passes_37 rfl (lv_at hl 2 rfl) ?_
          refine cvS (n := 0) (As := []) (rest := [.int y176d]) ⟨hx, hb, hml, hown, hts⟩ uc_in (kX10_days_0 l D C A u14 hI ) q_m1477 q_n1479 q_p74 q_i11 q_c1480 hvX10_days ⟨(Nat.le_of_ble_eq_true rfl), (Nat.le_of_ble_eq_true rfl)⟩ ⟨(Nat.le_of_ble_eq_true rfl), (Nat.le_of_ble_eq_true rfl)⟩ hK hH.1 10 0 rfl (mwc0 C A u14) rfl hl.1 rfl (Nat.le_of_ble_eq_true rfl) dX10_passes_38 (fun r179 p180 => ?_)
          subst p180
          have b181 : 0 ≤ ((ga u14 7 0)).toInt ∧ ((ga u14 7 0)).toInt ≤ 7 := hI.has 0
          refine lv_icmp_ge (tgt := 88) hx hb dX10_passes_41 (by decide) (fun c182 => ?_) (fun c182 => ?_)
          · have c182 := cLE (x := (ga u14 7 0)) (y := y176d) (X := ((ga u14 7 0)).toInt) (Y := y176d.toInt) rfl rfl c182
            refine lv_iload_n hx hb dX10_passes_88 rfl (lv_at hl 1 rfl) ?_
            exact hret _ _ _ _ y177d _ dX10_passes_89 rfl ⟨hI, (Un.tr (Un.si Un.rf rfl eu1) hUu14 rfl rfl rfl), trivial⟩ hH
          · have c182 := cNLE (x := (ga u14 7 0)) (y := y176d) (X := ((ga u14 7 0)).toInt) (Y := y176d.toInt) rfl rfl c182
            refine lv_iload_n hx hb dX10_passes_44 rfl (lv_at hl 1 rfl) ?_
            refine lv_aload_n hx hb dX10_passes_45 rfl (lv_at hl 2 rfl) ?_
            refine va_get (ci := 10) (v := .ref (A 12)) (C := RX10) (T := TX10) (N := 42) hx hb hts (fun w h => uc_in w (inX10 w h)) hown hK hH.1 0 (mwc0 C A u14) rfl 22 (by decide) (hts _ (uc_in _ q_f1210)) (fun _ h9 => h9) rfl dX10_passes_46 ?_
            refine lv_bipush (v := 6) hx hb dX10_passes_49 (by decide) ?_
            refine lv_iload hx hb dX10_passes_51 (lv_at hl 0 rfl) ?_
            refine lv_imul hx hb dX10_passes_53 ?_
            refine p_nm (tt_mul (X := 6) (Y := y176d.toInt) (by decide) rfl (by omega) (by omega)) (fun z183 hz183 => ?_)
            refine lv_iload_n hx hb dX10_passes_54 rfl (lv_at hl 3 rfl) ?_
            refine lv_iadd hx hb dX10_passes_55 ?_
            refine p_nm (tt_add (X := (6 * y176d.toInt)) (Y := A0) hz183 ha0 (by omega) (by omega)) (fun z184 hz184 => ?_)
            refine va_iald hx hb hK hH.1 12 1 (mwc12 C A u14) rfl (i_ix hz184 (by omega) (by omega)) dX10_passes_56 ?_
            refine p_any (fun z185 => ?_)
            refine lv_aload_n hx hb dX10_passes_57 rfl (lv_at hl 2 rfl) ?_
            refine va_get (ci := 10) (v := .ref (A 12)) (C := RX10) (T := TX10) (N := 42) hx hb hts (fun w h => uc_in w (inX10 w h)) hown hK hH.1 0 (mwc0 C A u14) rfl 22 (by decide) (hts _ (uc_in _ q_f1210)) (fun _ h9 => h9) rfl dX10_passes_58 ?_
            refine lv_bipush (v := 6) hx hb dX10_passes_61 (by decide) ?_
            refine lv_iload hx hb dX10_passes_63 (lv_at hl 0 rfl) ?_
            refine lv_imul hx hb dX10_passes_65 ?_
            refine p_nm (tt_mul (X := 6) (Y := y176d.toInt) (by decide) rfl (by omega) (by omega)) (fun z186 hz186 => ?_)
            refine lv_iload_n hx hb dX10_passes_66 rfl (lv_at hl 4 rfl) ?_
            refine lv_iadd hx hb dX10_passes_67 ?_
            refine p_nm (tt_add (X := (6 * y176d.toInt)) (Y := A1) hz186 ha1 (by omega) (by omega)) (fun z187 hz187 => ?_)
            refine va_iald hx hb hK hH.1 12 1 (mwc12 C A u14) rfl (i_ix hz187 (by omega) (by omega)) dX10_passes_68 ?_
            refine p_any (fun z188 => ?_)
            have j80_195 : ∀ (ls : Array Slot) (y192d : Int32), 0 ≤ y192d.toInt → y192d.toInt ≤ 64 → lv_has ls 5 [(4, .int y176d), (0, .ref (A 0)), (1, .int a0), (2, .int a1)] → W p l e (rmL 4 0 0) s m ar below meth c H locs 0 0 Q (F0 m 80 ls [.int y192d, .int y177d]) := by
              intro ls y192d ly192d my192d hl
              refine lv_ior hx hb dX10_passes_80 ?_
              refine p_any (fun z197 => ?_)
              refine lv_istore_n (lv' := [(3, .int z197), (4, .int y176d), (0, .ref (A 0)), (1, .int a0), (2, .int a1)]) hx hb dX10_passes_81 rfl hl (by decide) rfl (fun ls hl => ?_)
              obtain ⟨z198, ez198⟩ : ∃ z, z = y176d + Int32.ofInt 1 := ⟨_, rfl⟩
              have hz198 : z198.toInt = y176d.toInt + 1 := by rw [ez198]; exact tt_add rfl (by decide) (by omega) (by omega)
              refine lv_iinc (v := z198) (lv' := [(4, .int z198), (3, .int z197), (0, .ref (A 0)), (1, .int a0), (2, .int a1)]) hx hb dX10_passes_82 hl (k := 1) rfl ez198.symm (by decide) rfl (fun ls hl => ?_)
              refine lv_goto (tgt := 35) hx hb dX10_passes_85 (by decide) ?_
              exact ih35_177 ls z198 z197 (by have q9 := (show z198.toInt = (y176d.toInt + 1) from hz198); omega) (by have q9 := (show z198.toInt = (y176d.toInt + 1) from hz198); omega) (by have q9 := (show z198.toInt = (y176d.toInt + 1) from hz198); omega) hl
            refine lv_icmp_le (tgt := 79) hx hb dX10_passes_69 (by decide) (fun c189 => ?_) (fun c189 => ?_)
            · have c189 := cLE (x := z185) (y := z188) (X := z185.toInt) (Y := z188.toInt) rfl rfl c189
              refine lv_iconst (v := 0) hx hb dX10_passes_79 (by decide) ?_
              exact j80_195 ls 0 (by decide) (by decide) (lv_sub hl [0, 2, 3, 4] rfl)
            · have c189 := cNLE (x := z185) (y := z188) (X := z185.toInt) (Y := z188.toInt) rfl rfl c189
              refine lv_iconst (v := 1) hx hb dX10_passes_72 (by decide) ?_
              refine lv_iload hx hb dX10_passes_73 (lv_at hl 0 rfl) ?_
              refine lv_ishl hx hb dX10_passes_75 ?_
              have gz199 := tt_shl1 (y := y176d) (Y := y176d.toInt) rfl (by omega) (by omega)
              refine p_bd (P := fun q => 1 ≤ q ∧ q ≤ 64) ⟨by omega, by omega⟩ (fun z200 bz200 => ?_)
              have bz200 : 1 ≤ z200.toInt ∧ z200.toInt ≤ 64 := bz200
              refine lv_goto (tgt := 80) hx hb dX10_passes_76 (by decide) ?_
              exact j80_195 ls z200 (by omega) (by omega) (lv_sub hl [0, 2, 3, 4] rfl)
      exact lp35_177 8 ls 0 0 (by decide) (by decide) (by have q9 : (0 : Int32).toInt = 0 := (by decide); omega) hl
    · subst e9
      refine lv_if_ne (tgt := 26) hx hb dX10_passes_20 (by decide) (fun c201 => absurd c201 (by decide)) (fun c201 => ?_)
      refine lv_bipush (v := (-2)) hx hb dX10_passes_23 (by decide) ?_
      exact hret _ _ _ _ ((-2) : Int32) _ dX10_passes_25 rfl ⟨hI, (Un.si Un.rf rfl eu1), trivial⟩ hH
  · subst e9
    refine lv_if_eq (tgt := 23) hx hb dX10_passes_11 (by decide) (fun c202 => ?_) (fun c202 => absurd c202 (by decide))
    refine lv_bipush (v := (-2)) hx hb dX10_passes_23 (by decide) ?_
    exact hret _ _ _ _ ((-2) : Int32) _ dX10_passes_25 rfl ⟨hI, (Un.si Un.rf rfl eu1), trivial⟩ hH
set_option maxHeartbeats 4000000 in
set_option maxRecDepth 100000 in
theorem kX10_paste_0 (l : Launch) (D : va_G) (C : Nat → ClassId) (A : Nat → Nat) (u : St) (hI : IM u) (a0 : Int32) (A0 : Int) (ha0 : a0.toInt = A0) (a1 : Int32) (A1 : Int) (ha1 : a1.toInt = A1) (a2 : Int32) (A2 : Int) (ha2 : a2.toInt = A2) (a3 : Int32) (A3 : Int) (ha3 : a3.toInt = A3) (a4 : Int32) (A4 : Int) (ha4 : a4.toInt = A4) (hb1a0 : -1 ≤ (ga u 1 (Int32.toNatClampNeg a0)).toInt ∧ (ga u 1 (Int32.toNatClampNeg a0)).toInt ≤ 3) (hb2a0 : 0 ≤ (ga u 2 (Int32.toNatClampNeg a0)).toInt ∧ (ga u 2 (Int32.toNatClampNeg a0)).toInt ≤ 60) (hb1a2 : -1 ≤ (ga u 1 (Int32.toNatClampNeg a2)).toInt ∧ (ga u 1 (Int32.toNatClampNeg a2)).toInt ≤ 3) (hb2a2 : 0 ≤ (ga u 2 (Int32.toNatClampNeg a2)).toInt ∧ (ga u 2 (Int32.toNatClampNeg a2)).toInt ≤ 60) (sz : Nat) : MetI l yX10_paste cX10_paste 7 (some .int) 3 [.ref (A 0), .int a0, .int a1, .int a2, .int a3, .int a4] D (tyl C) (mw C A) X0 u sz (fun r u' => IM u' ∧ Un [(0, 0)] [] [(3, 3), (4, 4)] u u' ∧ ((r = -2 ∧ ¬ ((0 ≤ A0 ∧ A0 ≤ 3) ∧ 0 ≤ A2 ∧ A2 ≤ 3)) ∨ (r = -6 ∧ ((0 ≤ A0 ∧ A0 ≤ 3) ∧ 0 ≤ A2 ∧ A2 ≤ 3) ∧ ((ga u 1 (Int32.toNatClampNeg a0)).toInt = -1 ∨ (ga u 1 (Int32.toNatClampNeg a2)).toInt = -1)) ∨ (r = -8 ∧ ((0 ≤ A0 ∧ A0 ≤ 3) ∧ 0 ≤ A2 ∧ A2 ≤ 3) ∧ (ga u 1 (Int32.toNatClampNeg a0)).toInt ≠ -1 ∧ (ga u 1 (Int32.toNatClampNeg a2)).toInt ≠ -1 ∧ (ga u 1 (Int32.toNatClampNeg a0)).toInt ≠ (ga u 1 (Int32.toNatClampNeg a2)).toInt) ∨ (r = -7 ∧ ((0 ≤ A0 ∧ A0 ≤ 3) ∧ 0 ≤ A2 ∧ A2 ≤ 3) ∧ (ga u 1 (Int32.toNatClampNeg a0)).toInt ≠ -1 ∧ (ga u 1 (Int32.toNatClampNeg a2)).toInt ≠ -1 ∧ (ga u 1 (Int32.toNatClampNeg a0)).toInt = (ga u 1 (Int32.toNatClampNeg a2)).toInt ∧ ¬ (0 ≤ A1 ∧ 0 ≤ A3 ∧ 0 ≤ A4 ∧ A1 + A4 ≤ (ga u 2 (Int32.toNatClampNeg a0)).toInt ∧ A3 + A4 ≤ (ga u 2 (Int32.toNatClampNeg a2)).toInt)) ∨ (r = 0 ∧ ((0 ≤ A0 ∧ A0 ≤ 3) ∧ 0 ≤ A2 ∧ A2 ≤ 3) ∧ (ga u 1 (Int32.toNatClampNeg a0)).toInt ≠ -1 ∧ (ga u 1 (Int32.toNatClampNeg a2)).toInt ≠ -1 ∧ (ga u 1 (Int32.toNatClampNeg a0)).toInt = (ga u 1 (Int32.toNatClampNeg a2)).toInt ∧ (0 ≤ A1 ∧ 0 ≤ A3 ∧ 0 ≤ A4 ∧ A1 + A4 ≤ (ga u 2 (Int32.toNatClampNeg a0)).toInt ∧ A3 + A4 ≤ (ga u 2 (Int32.toNatClampNeg a2)).toInt)))) := by
  refine mI (by decide) (Nat.le_of_ble_eq_true rfl) ?_
  intro p e s m below meth c ls ar Q hx hb hml hown hts hK hH hX hl hret
  have hown : s.vm.findClass RX10 = some m.cls := hown
  have hl : lv_has ls 7 [(0, .ref (A 0)), (1, .int a0), (2, .int a1), (3, .int a2), (4, .int a3), (5, .int a4)] := hl
  refine lv_aload_n hx hb dX10_paste_0 rfl (lv_at hl 0 rfl) ?_
  refine lv_iconst (v := 0) hx hb dX10_paste_1 (by decide) ?_
  refine r_put (j := 0) (ci := 10) (C := RX10) (T := TX10) (N := 42) hx hb hts (fun w h => uc_in w (inX10 w h)) tyX10 tyX10_ok nmX10 hown hK hH 0 (mwc0 C A u) rfl 0 (by decide) (hts _ (uc_in _ q_f1188)) (fun _ h9 => h9) rfl (by decide +kernel) (Nat.le_of_ble_eq_true rfl) (mws0 C A u _) dX10_paste_2 (fun u1 eu1 H locs hH => ?_)
  have hI := hI.pi0 eu1 rfl
  refine lv_iload_n hx hb dX10_paste_5 rfl (lv_at hl 1 rfl) ?_
  refine csS (n := 1) (As := [.int a0]) (rest := []) ⟨hx, hb, hml, hown, hts⟩ uc_in (kX10_isSlot_0 l D C A u1 hI a0 A0 ha0) q_m1320 q_s1321 q_i11 q_c1322 hvX10_isSlot ⟨(Nat.le_of_ble_eq_true rfl), (Nat.le_of_ble_eq_true rfl)⟩ ⟨(Nat.le_of_ble_eq_true rfl), (Nat.le_of_ble_eq_true rfl)⟩ hK hH.1 rfl hl.1 rfl (Nat.le_of_ble_eq_true rfl) dX10_paste_6 (fun r2 p3 => ?_)
  rcases p3 with ⟨e9, f4, f5⟩ | ⟨e9, fn6⟩
  · subst e9
    refine lv_if_eq (tgt := 19) hx hb dX10_paste_9 (by decide) (fun c7 => absurd c7 (by decide)) (fun c7 => ?_)
    refine lv_iload_n hx hb dX10_paste_12 rfl (lv_at hl 3 rfl) ?_
    refine csS (n := 1) (As := [.int a2]) (rest := []) ⟨hx, hb, hml, hown, hts⟩ uc_in (kX10_isSlot_0 l D C A u1 hI a2 A2 ha2) q_m1320 q_s1321 q_i11 q_c1322 hvX10_isSlot ⟨(Nat.le_of_ble_eq_true rfl), (Nat.le_of_ble_eq_true rfl)⟩ ⟨(Nat.le_of_ble_eq_true rfl), (Nat.le_of_ble_eq_true rfl)⟩ hK hH.1 rfl hl.1 rfl (Nat.le_of_ble_eq_true rfl) dX10_paste_13 (fun r8 p9 => ?_)
    rcases p9 with ⟨e9, f10, f11⟩ | ⟨e9, fn12⟩
    · subst e9
      refine lv_if_ne (tgt := 22) hx hb dX10_paste_16 (by decide) (fun c13 => ?_) (fun c13 => absurd c13 (by decide))
      refine lv_aload_n hx hb dX10_paste_22 rfl (lv_at hl 0 rfl) ?_
      refine va_get (ci := 10) (v := .ref (A 1)) (C := RX10) (T := TX10) (N := 42) hx hb hts (fun w h => uc_in w (inX10 w h)) hown hK hH.1 0 (mwc0 C A u1) rfl 1 (by decide) (hts _ (uc_in _ q_f1189)) (fun _ h9 => h9) rfl dX10_paste_23 ?_
      refine lv_iload_n hx hb dX10_paste_26 rfl (lv_at hl 1 rfl) ?_
      refine va_iald hx hb hK hH.1 1 1 (mwc1 C A u1) rfl (i_ix ha0 (by omega) (by omega)) dX10_paste_27 ?_
      refine pv_i (v := (ga u 1 (Int32.toNatClampNeg a0))) ((congrFun (ga_si eu1) _).trans rfl) ?_
      refine lv_iconst (v := (-1)) hx hb dX10_paste_28 (by decide) ?_
      refine lv_icmp_eq (tgt := 42) hx hb dX10_paste_29 (by decide) (fun c14 => ?_) (fun c14 => ?_)
      · have c14 := cEQ (x := (ga u 1 (Int32.toNatClampNeg a0))) (y := (-1)) (X := ((ga u 1 (Int32.toNatClampNeg a0))).toInt) (Y := (-1)) rfl (by decide) c14
        refine lv_bipush (v := (-6)) hx hb dX10_paste_42 (by decide) ?_
        exact hret _ _ _ _ ((-6) : Int32) _ dX10_paste_44 rfl ⟨hI, (Un.si Un.rf rfl eu1), (Or.inr (Or.inl (⟨rfl, by omega⟩)))⟩ hH
      · have c14 := cNE (x := (ga u 1 (Int32.toNatClampNeg a0))) (y := (-1)) (X := ((ga u 1 (Int32.toNatClampNeg a0))).toInt) (Y := (-1)) rfl (by decide) c14
        refine lv_aload_n hx hb dX10_paste_32 rfl (lv_at hl 0 rfl) ?_
        refine va_get (ci := 10) (v := .ref (A 1)) (C := RX10) (T := TX10) (N := 42) hx hb hts (fun w h => uc_in w (inX10 w h)) hown hK hH.1 0 (mwc0 C A u1) rfl 1 (by decide) (hts _ (uc_in _ q_f1189)) (fun _ h9 => h9) rfl dX10_paste_33 ?_
        refine lv_iload_n hx hb dX10_paste_36 rfl (lv_at hl 3 rfl) ?_
        refine va_iald hx hb hK hH.1 1 1 (mwc1 C A u1) rfl (i_ix ha2 (by omega) (by omega)) dX10_paste_37 ?_
        refine pv_i (v := (ga u 1 (Int32.toNatClampNeg a2))) ((congrFun (ga_si eu1) _).trans rfl) ?_
        refine lv_iconst (v := (-1)) hx hb dX10_paste_38 (by decide) ?_
        refine lv_icmp_ne (tgt := 45) hx hb dX10_paste_39 (by decide) (fun c15 => ?_) (fun c15 => ?_)
        · have c15 := cNE (x := (ga u 1 (Int32.toNatClampNeg a2))) (y := (-1)) (X := ((ga u 1 (Int32.toNatClampNeg a2))).toInt) (Y := (-1)) rfl (by decide) c15
          refine lv_aload_n hx hb dX10_paste_45 rfl (lv_at hl 0 rfl) ?_
          refine va_get (ci := 10) (v := .ref (A 1)) (C := RX10) (T := TX10) (N := 42) hx hb hts (fun w h => uc_in w (inX10 w h)) hown hK hH.1 0 (mwc0 C A u1) rfl 1 (by decide) (hts _ (uc_in _ q_f1189)) (fun _ h9 => h9) rfl dX10_paste_46 ?_
          refine lv_iload_n hx hb dX10_paste_49 rfl (lv_at hl 1 rfl) ?_
          refine va_iald hx hb hK hH.1 1 1 (mwc1 C A u1) rfl (i_ix ha0 (by omega) (by omega)) dX10_paste_50 ?_
          refine pv_i (v := (ga u 1 (Int32.toNatClampNeg a0))) ((congrFun (ga_si eu1) _).trans rfl) ?_
          refine lv_aload_n hx hb dX10_paste_51 rfl (lv_at hl 0 rfl) ?_
          refine va_get (ci := 10) (v := .ref (A 1)) (C := RX10) (T := TX10) (N := 42) hx hb hts (fun w h => uc_in w (inX10 w h)) hown hK hH.1 0 (mwc0 C A u1) rfl 1 (by decide) (hts _ (uc_in _ q_f1189)) (fun _ h9 => h9) rfl dX10_paste_52 ?_
          refine lv_iload_n hx hb dX10_paste_55 rfl (lv_at hl 3 rfl) ?_
          refine va_iald hx hb hK hH.1 1 1 (mwc1 C A u1) rfl (i_ix ha2 (by omega) (by omega)) dX10_paste_56 ?_
          refine pv_i (v := (ga u 1 (Int32.toNatClampNeg a2))) ((congrFun (ga_si eu1) _).trans rfl) ?_
          refine lv_icmp_eq (tgt := 63) hx hb dX10_paste_57 (by decide) (fun c16 => ?_) (fun c16 => ?_)
          · have c16 := cEQ (x := (ga u 1 (Int32.toNatClampNeg a0))) (y := (ga u 1 (Int32.toNatClampNeg a2))) (X := ((ga u 1 (Int32.toNatClampNeg a0))).toInt) (Y := ((ga u 1 (Int32.toNatClampNeg a2))).toInt) rfl rfl c16
            refine lv_iload_n hx hb dX10_paste_63 rfl (lv_at hl 2 rfl) ?_
            refine lv_if_lt (tgt := 112) hx hb dX10_paste_64 (by decide) (fun c17 => ?_) (fun c17 => ?_)
            · have c17 := cLT (x := a1) (y := 0) (X := A1) (Y := 0) ha1 (by decide) c17
              refine lv_bipush (v := (-7)) hx hb dX10_paste_112 (by decide) ?_
              exact hret _ _ _ _ ((-7) : Int32) _ dX10_paste_114 rfl ⟨hI, (Un.si Un.rf rfl eu1), (Or.inr (Or.inr (Or.inr (Or.inl (⟨rfl, by omega⟩)))))⟩ hH
            · have c17 := cNLT (x := a1) (y := 0) (X := A1) (Y := 0) ha1 (by decide) c17
              refine lv_iload hx hb dX10_paste_67 (lv_at hl 4 rfl) ?_
              refine lv_if_lt (tgt := 112) hx hb dX10_paste_69 (by decide) (fun c18 => ?_) (fun c18 => ?_)
              · have c18 := cLT (x := a3) (y := 0) (X := A3) (Y := 0) ha3 (by decide) c18
                refine lv_bipush (v := (-7)) hx hb dX10_paste_112 (by decide) ?_
                exact hret _ _ _ _ ((-7) : Int32) _ dX10_paste_114 rfl ⟨hI, (Un.si Un.rf rfl eu1), (Or.inr (Or.inr (Or.inr (Or.inl (⟨rfl, by omega⟩)))))⟩ hH
              · have c18 := cNLT (x := a3) (y := 0) (X := A3) (Y := 0) ha3 (by decide) c18
                refine lv_iload hx hb dX10_paste_72 (lv_at hl 5 rfl) ?_
                refine lv_if_lt (tgt := 112) hx hb dX10_paste_74 (by decide) (fun c19 => ?_) (fun c19 => ?_)
                · have c19 := cLT (x := a4) (y := 0) (X := A4) (Y := 0) ha4 (by decide) c19
                  refine lv_bipush (v := (-7)) hx hb dX10_paste_112 (by decide) ?_
                  exact hret _ _ _ _ ((-7) : Int32) _ dX10_paste_114 rfl ⟨hI, (Un.si Un.rf rfl eu1), (Or.inr (Or.inr (Or.inr (Or.inl (⟨rfl, by omega⟩)))))⟩ hH
                · have c19 := cNLT (x := a4) (y := 0) (X := A4) (Y := 0) ha4 (by decide) c19
                  refine lv_iload_n hx hb dX10_paste_77 rfl (lv_at hl 2 rfl) ?_
                  refine lv_i2l (v := a1.toInt64) hx hb dX10_paste_78 rfl ?_
                  refine lv_iload hx hb dX10_paste_79 (lv_at hl 5 rfl) ?_
                  refine lv_i2l (v := a4.toInt64) hx hb dX10_paste_81 rfl ?_
                  refine lv_ladd hx hb dX10_paste_82 ?_
                  have b20 := i_rng (X := A1) ha1
                  have b21 := i_rng (X := A4) ha4
                  refine p_nml (tt_ladd (X := A1) (Y := A4) (tt_i2l ha1) (tt_i2l ha4) (by omega) (by omega)) (fun z22 hz22 => ?_)
                  refine lv_aload_n hx hb dX10_paste_83 rfl (lv_at hl 0 rfl) ?_
                  refine va_get (ci := 10) (v := .ref (A 2)) (C := RX10) (T := TX10) (N := 42) hx hb hts (fun w h => uc_in w (inX10 w h)) hown hK hH.1 0 (mwc0 C A u1) rfl 2 (by decide) (hts _ (uc_in _ q_f1190)) (fun _ h9 => h9) rfl dX10_paste_84 ?_
                  refine lv_iload_n hx hb dX10_paste_87 rfl (lv_at hl 1 rfl) ?_
                  refine va_iald hx hb hK hH.1 2 1 (mwc2 C A u1) rfl (i_ix ha0 (by omega) (by omega)) dX10_paste_88 ?_
                  refine pv_i (v := (ga u 2 (Int32.toNatClampNeg a0))) ((congrFun (ga_si eu1) _).trans rfl) ?_
                  refine lv_i2l (v := (ga u 2 (Int32.toNatClampNeg a0)).toInt64) hx hb dX10_paste_89 rfl ?_
                  refine W.lcmp hx hb dX10_paste_90 ?_
                  refine lv_if_gt (tgt := 112) hx hb dX10_paste_91 (by decide) (fun c23 => ?_) (fun c23 => ?_)
                  · have c23 := dGT (X := (A1 + A4)) (Y := ((ga u 2 (Int32.toNatClampNeg a0))).toInt) hz22 (tt_i2l rfl) c23
                    refine lv_bipush (v := (-7)) hx hb dX10_paste_112 (by decide) ?_
                    exact hret _ _ _ _ ((-7) : Int32) _ dX10_paste_114 rfl ⟨hI, (Un.si Un.rf rfl eu1), (Or.inr (Or.inr (Or.inr (Or.inl (⟨rfl, by omega⟩)))))⟩ hH
                  · have c23 := dNGT (X := (A1 + A4)) (Y := ((ga u 2 (Int32.toNatClampNeg a0))).toInt) hz22 (tt_i2l rfl) c23
                    refine lv_iload hx hb dX10_paste_94 (lv_at hl 4 rfl) ?_
                    refine lv_i2l (v := a3.toInt64) hx hb dX10_paste_96 rfl ?_
                    refine lv_iload hx hb dX10_paste_97 (lv_at hl 5 rfl) ?_
                    refine lv_i2l (v := a4.toInt64) hx hb dX10_paste_99 rfl ?_
                    refine lv_ladd hx hb dX10_paste_100 ?_
                    have b24 := i_rng (X := A3) ha3
                    refine p_nml (tt_ladd (X := A3) (Y := A4) (tt_i2l ha3) (tt_i2l ha4) (by omega) (by omega)) (fun z25 hz25 => ?_)
                    refine lv_aload_n hx hb dX10_paste_101 rfl (lv_at hl 0 rfl) ?_
                    refine va_get (ci := 10) (v := .ref (A 2)) (C := RX10) (T := TX10) (N := 42) hx hb hts (fun w h => uc_in w (inX10 w h)) hown hK hH.1 0 (mwc0 C A u1) rfl 2 (by decide) (hts _ (uc_in _ q_f1190)) (fun _ h9 => h9) rfl dX10_paste_102 ?_
                    refine lv_iload_n hx hb dX10_paste_105 rfl (lv_at hl 3 rfl) ?_
                    refine va_iald hx hb hK hH.1 2 1 (mwc2 C A u1) rfl (i_ix ha2 (by omega) (by omega)) dX10_paste_106 ?_
                    refine pv_i (v := (ga u 2 (Int32.toNatClampNeg a2))) ((congrFun (ga_si eu1) _).trans rfl) ?_
                    refine lv_i2l (v := (ga u 2 (Int32.toNatClampNeg a2)).toInt64) hx hb dX10_paste_107 rfl ?_
                    refine W.lcmp hx hb dX10_paste_108 ?_
                    refine lv_if_le (tgt := 115) hx hb dX10_paste_109 (by decide) (fun c26 => ?_) (fun c26 => ?_)
                    · have c26 := dLE (X := (A3 + A4)) (Y := ((ga u 2 (Int32.toNatClampNeg a2))).toInt) hz25 (tt_i2l rfl) c26
                      refine lv_iconst (v := 0) hx hb dX10_paste_115 (by decide) ?_
                      refine lv_istore (lv' := [(6, .int 0), (0, .ref (A 0)), (1, .int a0), (2, .int a1), (3, .int a2), (4, .int a3), (5, .int a4)]) hx hb dX10_paste_116 hl (by decide) rfl (fun ls hl => ?_)
                      have lp118_662 : ∀ (n118 : Nat) (ls : Array Slot) (y661d : Int32) (u662 : St) (H : Heap) (locs : List Loc), 0 ≤ y661d.toInt → y661d.toInt ≤ 60 → 60 - y661d.toInt < (n118 : Int) → Un [] [] [(3, 3), (4, 4)] u1 u662 → IM u662 → Hd D (mw C A) (va_A (mw C A u) s.heap.size) s.heap u662 H locs → lv_has ls 7 [(6, .int y661d), (0, .ref (A 0)), (1, .int a0), (2, .int a1), (3, .int a2), (4, .int a3), (5, .int a4)] → W p l e (rmL 3 0 0) s m ar below meth c H locs 0 0 Q (F0 m 118 ls []) := by
                        intro n118
                        induction n118 with
                        | zero => intro ls y661d u662 H locs ly661d my661d hmun118 hUu662 hI hH hl; exfalso; omega
                        | succ n118 ih118_662 =>
                          intro ls y661d u662 H locs ly661d my661d hmun118 hUu662 hI hH hl
                          refine lv_iload hx hb dX10_paste_118 (lv_at hl 0 rfl) ?_
                          refine lv_iload hx hb dX10_paste_120 (lv_at hl 6 rfl) ?_
                          refine lv_icmp_ge (tgt := 152) hx hb dX10_paste_122 (by decide) (fun c664 => ?_) (fun c664 => ?_)
                          · have c664 := cLE (x := a4) (y := y661d) (X := A4) (Y := y661d.toInt) ha4 rfl c664
                            refine lv_iconst (v := 0) hx hb dX10_paste_152 (by decide) ?_
                            refine lv_istore (lv' := [(6, .int 0), (0, .ref (A 0)), (1, .int a0), (2, .int a1), (3, .int a2), (4, .int a3), (5, .int a4)]) hx hb dX10_paste_153 hl (by decide) rfl (fun ls hl => ?_)
                            have lp155_760 : ∀ (n155 : Nat) (ls : Array Slot) (y759d : Int32) (u760 : St) (H : Heap) (locs : List Loc), 0 ≤ y759d.toInt → y759d.toInt ≤ 60 → 60 - y759d.toInt < (n155 : Int) → Un [] [] [(3, 3)] u662 u760 → IM u760 → Hd D (mw C A) (va_A (mw C A u) s.heap.size) s.heap u760 H locs → lv_has ls 7 [(6, .int y759d), (0, .ref (A 0)), (3, .int a2), (4, .int a3), (5, .int a4)] → W p l e (rmL 3 0 0) s m ar below meth c H locs 0 0 Q (F0 m 155 ls []) := by
                              intro n155
                              induction n155 with
                              | zero => intro ls y759d u760 H locs ly759d my759d hmun155 hUu760 hI hH hl; exfalso; omega
                              | succ n155 ih155_760 =>
                                intro ls y759d u760 H locs ly759d my759d hmun155 hUu760 hI hH hl
                                refine lv_iload hx hb dX10_paste_155 (lv_at hl 0 rfl) ?_
                                refine lv_iload hx hb dX10_paste_157 (lv_at hl 4 rfl) ?_
                                refine lv_icmp_ge (tgt := 190) hx hb dX10_paste_159 (by decide) (fun c762 => ?_) (fun c762 => ?_)
                                · have c762 := cLE (x := a4) (y := y759d) (X := A4) (Y := y759d.toInt) ha4 rfl c762
                                  refine lv_iconst (v := 0) hx hb dX10_paste_190 (by decide) ?_
                                  exact hret _ _ _ _ (0 : Int32) _ dX10_paste_191 rfl ⟨hI, (Un.tr (Un.tr (Un.si Un.rf rfl eu1) hUu662 rfl rfl rfl) hUu760 rfl rfl rfl), (Or.inr (Or.inr (Or.inr (Or.inr (⟨rfl, by omega⟩)))))⟩ hH
                                · have c762 := cNLE (x := a4) (y := y759d) (X := A4) (Y := y759d.toInt) ha4 rfl c762
                                  refine lv_aload_n hx hb dX10_paste_162 rfl (lv_at hl 1 rfl) ?_
                                  refine va_get (ci := 10) (v := .ref (A 3)) (C := RX10) (T := TX10) (N := 42) hx hb hts (fun w h => uc_in w (inX10 w h)) hown hK hH.1 0 (mwc0 C A u760) rfl 3 (by decide) (hts _ (uc_in _ q_f1191)) (fun _ h9 => h9) rfl dX10_paste_163 ?_
                                  refine lv_bipush (v := 60) hx hb dX10_paste_166 (by decide) ?_
                                  refine lv_iload_n hx hb dX10_paste_168 rfl (lv_at hl 2 rfl) ?_
                                  refine lv_imul hx hb dX10_paste_169 ?_
                                  refine p_nm (tt_mul (X := 60) (Y := A2) (by decide) ha2 (by omega) (by omega)) (fun z763 hz763 => ?_)
                                  refine lv_iload hx hb dX10_paste_170 (lv_at hl 3 rfl) ?_
                                  refine lv_iadd hx hb dX10_paste_172 ?_
                                  refine p_nm (tt_add (X := (60 * A2)) (Y := A3) hz763 ha3 (by omega) (by omega)) (fun z764 hz764 => ?_)
                                  refine lv_iload hx hb dX10_paste_173 (lv_at hl 0 rfl) ?_
                                  refine lv_iadd hx hb dX10_paste_175 ?_
                                  refine p_nm (tt_add (X := ((60 * A2) + A3)) (Y := y759d.toInt) hz764 rfl (by omega) (by omega)) (fun z765 hz765 => ?_)
                                  refine lv_aload_n hx hb dX10_paste_176 rfl (lv_at hl 1 rfl) ?_
                                  refine va_get (ci := 10) (v := .ref (A 4)) (C := RX10) (T := TX10) (N := 42) hx hb hts (fun w h => uc_in w (inX10 w h)) hown hK hH.1 0 (mwc0 C A u760) rfl 4 (by decide) (hts _ (uc_in _ q_f1192)) (fun _ h9 => h9) rfl dX10_paste_177 ?_
                                  refine lv_iload hx hb dX10_paste_180 (lv_at hl 0 rfl) ?_
                                  refine va_lald hx hb hK hH.1 4 2 (mwc4 C A u760) rfl (i_ix rfl (by omega) (by omega)) dX10_paste_182 ?_
                                  refine p_anyl (fun z766 => ?_)
                                  refine r_last (j := 3) hx hb hK hH 3 2 (mwc3 C A u760) rfl (i_ix hz765 (by omega) (by omega)) (mwb3 C A u760) dX10_paste_183 (fun u767 eu767 H locs hH => ?_)
                                  have hI := hI.pb_ eu767
                                  obtain ⟨z768, ez768⟩ : ∃ z, z = y759d + Int32.ofInt 1 := ⟨_, rfl⟩
                                  have hz768 : z768.toInt = y759d.toInt + 1 := by rw [ez768]; exact tt_add rfl (by decide) (by omega) (by omega)
                                  refine lv_iinc (v := z768) (lv' := [(6, .int z768), (0, .ref (A 0)), (3, .int a2), (4, .int a3), (5, .int a4)]) hx hb dX10_paste_184 hl (k := 0) rfl ez768.symm (by decide) rfl (fun ls hl => ?_)
                                  refine lv_goto (tgt := 155) hx hb dX10_paste_187 (by decide) ?_
                                  exact ih155_760 ls z768 u767 _ _ (by have q9 := (show z768.toInt = (y759d.toInt + 1) from hz768); omega) (by have q9 := (show z768.toInt = (y759d.toInt + 1) from hz768); omega) (by have q9 := (show z768.toInt = (y759d.toInt + 1) from hz768); omega) (Un.sb hUu760 rfl eu767) hI hH hl
                            exact lp155_760 61 ls 0 u662 _ _ (by decide) (by decide) (by have q9 : (0 : Int32).toInt = 0 := (by decide); omega) Un.rf hI hH (lv_sub hl [0, 1, 4, 5, 6] rfl)
                          · have c664 := cNLE (x := a4) (y := y661d) (X := A4) (Y := y661d.toInt) ha4 rfl c664
                            refine lv_aload_n hx hb dX10_paste_125 rfl (lv_at hl 1 rfl) ?_
                            refine va_get (ci := 10) (v := .ref (A 4)) (C := RX10) (T := TX10) (N := 42) hx hb hts (fun w h => uc_in w (inX10 w h)) hown hK hH.1 0 (mwc0 C A u662) rfl 4 (by decide) (hts _ (uc_in _ q_f1192)) (fun _ h9 => h9) rfl dX10_paste_126 ?_
                            refine lv_iload hx hb dX10_paste_129 (lv_at hl 0 rfl) ?_
                            refine lv_aload_n hx hb dX10_paste_131 rfl (lv_at hl 1 rfl) ?_
                            refine va_get (ci := 10) (v := .ref (A 3)) (C := RX10) (T := TX10) (N := 42) hx hb hts (fun w h => uc_in w (inX10 w h)) hown hK hH.1 0 (mwc0 C A u662) rfl 3 (by decide) (hts _ (uc_in _ q_f1191)) (fun _ h9 => h9) rfl dX10_paste_132 ?_
                            refine lv_bipush (v := 60) hx hb dX10_paste_135 (by decide) ?_
                            refine lv_iload_n hx hb dX10_paste_137 rfl (lv_at hl 2 rfl) ?_
                            refine lv_imul hx hb dX10_paste_138 ?_
                            refine p_nm (tt_mul (X := 60) (Y := A0) (by decide) ha0 (by omega) (by omega)) (fun z769 hz769 => ?_)
                            refine lv_iload_n hx hb dX10_paste_139 rfl (lv_at hl 3 rfl) ?_
                            refine lv_iadd hx hb dX10_paste_140 ?_
                            refine p_nm (tt_add (X := (60 * A0)) (Y := A1) hz769 ha1 (by omega) (by omega)) (fun z770 hz770 => ?_)
                            refine lv_iload hx hb dX10_paste_141 (lv_at hl 0 rfl) ?_
                            refine lv_iadd hx hb dX10_paste_143 ?_
                            refine p_nm (tt_add (X := ((60 * A0) + A1)) (Y := y661d.toInt) hz770 rfl (by omega) (by omega)) (fun z771 hz771 => ?_)
                            refine va_lald hx hb hK hH.1 3 2 (mwc3 C A u662) rfl (i_ix hz771 (by omega) (by omega)) dX10_paste_144 ?_
                            refine p_anyl (fun z772 => ?_)
                            refine r_last (j := 4) hx hb hK hH 4 2 (mwc4 C A u662) rfl (i_ix rfl (by omega) (by omega)) (mwb4 C A u662) dX10_paste_145 (fun u773 eu773 H locs hH => ?_)
                            have hI := hI.pb_ eu773
                            obtain ⟨z774, ez774⟩ : ∃ z, z = y661d + Int32.ofInt 1 := ⟨_, rfl⟩
                            have hz774 : z774.toInt = y661d.toInt + 1 := by rw [ez774]; exact tt_add rfl (by decide) (by omega) (by omega)
                            refine lv_iinc (v := z774) (lv' := [(6, .int z774), (0, .ref (A 0)), (1, .int a0), (2, .int a1), (3, .int a2), (4, .int a3), (5, .int a4)]) hx hb dX10_paste_146 hl (k := 0) rfl ez774.symm (by decide) rfl (fun ls hl => ?_)
                            refine lv_goto (tgt := 118) hx hb dX10_paste_149 (by decide) ?_
                            exact ih118_662 ls z774 u773 _ _ (by have q9 := (show z774.toInt = (y661d.toInt + 1) from hz774); omega) (by have q9 := (show z774.toInt = (y661d.toInt + 1) from hz774); omega) (by have q9 := (show z774.toInt = (y661d.toInt + 1) from hz774); omega) (Un.sb hUu662 rfl eu773) hI hH hl
                      exact lp118_662 61 ls 0 u1 _ _ (by decide) (by decide) (by have q9 : (0 : Int32).toInt = 0 := (by decide); omega) Un.rf hI hH hl
                    · have c26 := dNLE (X := (A3 + A4)) (Y := ((ga u 2 (Int32.toNatClampNeg a2))).toInt) hz25 (tt_i2l rfl) c26
                      refine lv_bipush (v := (-7)) hx hb dX10_paste_112 (by decide) ?_
                      exact hret _ _ _ _ ((-7) : Int32) _ dX10_paste_114 rfl ⟨hI, (Un.si Un.rf rfl eu1), (Or.inr (Or.inr (Or.inr (Or.inl (⟨rfl, by omega⟩)))))⟩ hH
          · have c16 := cNE (x := (ga u 1 (Int32.toNatClampNeg a0))) (y := (ga u 1 (Int32.toNatClampNeg a2))) (X := ((ga u 1 (Int32.toNatClampNeg a0))).toInt) (Y := ((ga u 1 (Int32.toNatClampNeg a2))).toInt) rfl rfl c16
            refine lv_bipush (v := (-8)) hx hb dX10_paste_60 (by decide) ?_
            exact hret _ _ _ _ ((-8) : Int32) _ dX10_paste_62 rfl ⟨hI, (Un.si Un.rf rfl eu1), (Or.inr (Or.inr (Or.inl (⟨rfl, by omega⟩))))⟩ hH
        · have c15 := cEQ (x := (ga u 1 (Int32.toNatClampNeg a2))) (y := (-1)) (X := ((ga u 1 (Int32.toNatClampNeg a2))).toInt) (Y := (-1)) rfl (by decide) c15
          refine lv_bipush (v := (-6)) hx hb dX10_paste_42 (by decide) ?_
          exact hret _ _ _ _ ((-6) : Int32) _ dX10_paste_44 rfl ⟨hI, (Un.si Un.rf rfl eu1), (Or.inr (Or.inl (⟨rfl, by omega⟩)))⟩ hH
    · subst e9
      refine lv_if_ne (tgt := 22) hx hb dX10_paste_16 (by decide) (fun c775 => absurd c775 (by decide)) (fun c775 => ?_)
      refine lv_bipush (v := (-2)) hx hb dX10_paste_19 (by decide) ?_
      exact hret _ _ _ _ ((-2) : Int32) _ dX10_paste_21 rfl ⟨hI, (Un.si Un.rf rfl eu1), (Or.inl (⟨rfl, by omega⟩))⟩ hH
  · subst e9
    refine lv_if_eq (tgt := 19) hx hb dX10_paste_9 (by decide) (fun c776 => ?_) (fun c776 => absurd c776 (by decide))
    refine lv_bipush (v := (-2)) hx hb dX10_paste_19 (by decide) ?_
    exact hret _ _ _ _ ((-2) : Int32) _ dX10_paste_21 rfl ⟨hI, (Un.si Un.rf rfl eu1), (Or.inl (⟨rfl, by omega⟩))⟩ hH
set_option maxHeartbeats 4000000 in
set_option maxRecDepth 100000 in
theorem kX10_price_0 (l : Launch) (D : va_G) (C : Nat → ClassId) (A : Nat → Nat) (u : St) (hI : IM u) (a0 : Int32) (A0 : Int) (ha0 : a0.toInt = A0) (sz : Nat) : MetI l yX10_price cX10_price 4 (some .int) 8 [.ref (A 0), .int a0] D (tyl C) (mw C A) X0 u sz (fun r u' => IM u' ∧ Un [(0, 0), (24, 24), (25, 25)] [(12, 12), (13, 13)] [] u u' ∧ (True)) := by
  refine mI (by decide) (Nat.le_of_ble_eq_true rfl) ?_
  intro p e s m below meth c ls ar Q hx hb hml hown hts hK hH hX hl hret
  have hown : s.vm.findClass RX10 = some m.cls := hown
  have hl : lv_has ls 4 [(0, .ref (A 0)), (1, .int a0)] := hl
  refine lv_aload_n hx hb dX10_price_0 rfl (lv_at hl 0 rfl) ?_
  refine lv_iconst (v := 0) hx hb dX10_price_1 (by decide) ?_
  refine r_put (j := 0) (ci := 10) (C := RX10) (T := TX10) (N := 42) hx hb hts (fun w h => uc_in w (inX10 w h)) tyX10 tyX10_ok nmX10 hown hK hH 0 (mwc0 C A u) rfl 0 (by decide) (hts _ (uc_in _ q_f1188)) (fun _ h9 => h9) rfl (by decide +kernel) (Nat.le_of_ble_eq_true rfl) (mws0 C A u _) dX10_price_2 (fun u1 eu1 H locs hH => ?_)
  have hI := hI.pi0 eu1 rfl
  refine lv_aload_n hx hb dX10_price_5 rfl (lv_at hl 0 rfl) ?_
  refine lv_iload_n hx hb dX10_price_6 rfl (lv_at hl 1 rfl) ?_
  refine lv_i2l (v := a0.toInt64) hx hb dX10_price_7 rfl ?_
  refine cvS (n := 1) (As := [.long a0.toInt64]) (rest := []) ⟨hx, hb, hml, hown, hts⟩ uc_in (kX10_isClock_0 l D C A u1 hI a0.toInt64 A0 (tt_i2l ha0)) q_m1460 q_n1462 q_p71 q_i11 q_c1463 hvX10_isClock ⟨(Nat.le_of_ble_eq_true rfl), (Nat.le_of_ble_eq_true rfl)⟩ ⟨(Nat.le_of_ble_eq_true rfl), (Nat.le_of_ble_eq_true rfl)⟩ hK hH.1 10 0 rfl (mwc0 C A u1) rfl hl.1 rfl (Nat.le_of_ble_eq_true rfl) dX10_price_8 (fun r2 p3 => ?_)
  rcases p3 with ⟨e9, f4, f5⟩ | e9
  · subst e9
    have b7 : 0 ≤ ((ga u1 7 3)).toInt ∧ ((ga u1 7 3)).toInt ≤ 6 := hI.has 3
    refine lv_if_ne (tgt := 18) hx hb dX10_price_11 (by decide) (fun c8 => ?_) (fun c8 => absurd c8 (by decide))
    refine lv_aload_n hx hb dX10_price_18 rfl (lv_at hl 0 rfl) ?_
    refine cvU (n := 0) (As := []) (rest := []) ⟨hx, hb, hml, hown, hts⟩ uc_in (kX10_lays_0 l D C A u1 hI  _) q_m1481 q_n1483 q_p75 q_i11 q_c1484 hvX10_lays ⟨(Nat.le_of_ble_eq_true rfl), (Nat.le_of_ble_eq_true rfl)⟩ ⟨(Nat.le_of_ble_eq_true rfl), (Nat.le_of_ble_eq_true rfl)⟩ hK hH (fun q h => Or.inr h) Bl0 (fun _ _ _ => trivial) 10 0 rfl (mwc0 C A u1) rfl hl.1 rfl (Nat.le_of_ble_eq_true rfl) dX10_price_19 (fun u9 H locs p11 hH => ?_)
    obtain ⟨hI, hUu9, p11⟩ := p11
    refine lv_aload_n hx hb dX10_price_22 rfl (lv_at hl 0 rfl) ?_
    refine cvS (n := 0) (As := []) (rest := []) ⟨hx, hb, hml, hown, hts⟩ uc_in (kX10_waitAll_0 l D C A u9 hI ) q_m1558 q_n1560 q_p85 q_i11 q_c1561 hvX10_waitAll ⟨(Nat.le_of_ble_eq_true rfl), (Nat.le_of_ble_eq_true rfl)⟩ ⟨(Nat.le_of_ble_eq_true rfl), (Nat.le_of_ble_eq_true rfl)⟩ hK hH.1 10 0 rfl (mwc0 C A u9) rfl hl.1 rfl (Nat.le_of_ble_eq_true rfl) dX10_price_23 (fun r12 p13 => ?_)
    refine lv_istore_n (lv' := [(2, .int r12), (0, .ref (A 0)), (1, .int a0)]) hx hb dX10_price_26 rfl hl (by decide) rfl (fun ls hl => ?_)
    refine lv_aload_n hx hb dX10_price_27 rfl (lv_at hl 1 rfl) ?_
    refine lv_iload_n hx hb dX10_price_28 rfl (lv_at hl 2 rfl) ?_
    refine cvS (n := 1) (As := [.int a0]) (rest := []) ⟨hx, hb, hml, hown, hts⟩ uc_in (kX10_rentsOf_0 l D C A u9 hI a0 A0 ha0 (by omega) (by omega)) q_m1578 q_n1580 q_p87 q_i11 q_c1581 hvX10_rentsOf ⟨(Nat.le_of_ble_eq_true rfl), (Nat.le_of_ble_eq_true rfl)⟩ ⟨(Nat.le_of_ble_eq_true rfl), (Nat.le_of_ble_eq_true rfl)⟩ hK hH.1 10 0 rfl (mwc0 C A u9) rfl hl.1 rfl (Nat.le_of_ble_eq_true rfl) dX10_price_29 (fun r14 p15 => ?_)
    refine lv_istore_n (lv' := [(3, .int r14), (2, .int r12), (0, .ref (A 0)), (1, .int a0)]) hx hb dX10_price_32 rfl hl (by decide) rfl (fun ls hl => ?_)
    refine lv_iload_n hx hb dX10_price_33 rfl (lv_at hl 1 rfl) ?_
    refine lv_aload_n hx hb dX10_price_34 rfl (lv_at hl 2 rfl) ?_
    refine lv_iconst (v := 1) hx hb dX10_price_35 (by decide) ?_
    refine lv_iload_n hx hb dX10_price_36 rfl (lv_at hl 3 rfl) ?_
    refine lv_ishl hx hb dX10_price_37 ?_
    have gz16 := tt_shl1 (y := a0) (Y := A0) ha0 (by omega) (by omega)
    refine p_bd (P := fun q => 1 ≤ q ∧ q ≤ 32) ⟨by omega, by omega⟩ (fun z17 bz17 => ?_)
    have bz17 : 1 ≤ z17.toInt ∧ z17.toInt ≤ 32 := bz17
    refine cvI (n := 1) (As := [.int z17]) (rest := [.int r12]) ⟨hx, hb, hml, hown, hts⟩ uc_in (kX10_waitWithout_0 l D C A u9 hI z17 z17.toInt rfl _) q_m1589 q_n1591 q_p88 q_i11 q_c1592 hvX10_waitWithout ⟨(Nat.le_of_ble_eq_true rfl), (Nat.le_of_ble_eq_true rfl)⟩ ⟨(Nat.le_of_ble_eq_true rfl), (Nat.le_of_ble_eq_true rfl)⟩ hK hH (fun q h => Or.inr h) Bl0 (fun _ _ _ => trivial) 10 0 rfl (mwc0 C A u9) rfl hl.1 rfl (Nat.le_of_ble_eq_true rfl) dX10_price_38 (fun r19 u18 H locs p20 hH => ?_)
    obtain ⟨hI, hUu18, p20⟩ := p20
    refine lv_isub hx hb dX10_price_41 ?_
    refine p_any (fun z21 => ?_)
    refine lv_iload_n hx hb dX10_price_42 rfl (lv_at hl 0 rfl) ?_
    refine lv_isub hx hb dX10_price_43 ?_
    refine p_any (fun z22 => ?_)
    exact hret _ _ _ _ z22 _ dX10_price_44 rfl ⟨hI, (Un.tr (Un.tr (Un.si Un.rf rfl eu1) hUu9 rfl rfl rfl) hUu18 rfl rfl rfl), trivial⟩ hH
  · subst e9
    refine lv_if_ne (tgt := 18) hx hb dX10_price_11 (by decide) (fun c23 => absurd c23 (by decide)) (fun c23 => ?_)
    refine lv_ldcw (v := (-1000000)) hx hb hown (hts _ (uc_in _ q_k1605)) dX10_price_14 ?_
    exact hret _ _ _ _ ((-1000000) : Int32) _ dX10_price_17 rfl ⟨hI, (Un.si Un.rf rfl eu1), trivial⟩ hH
set_option maxHeartbeats 4000000 in
set_option maxRecDepth 100000 in
theorem kX10_quorum_0 (l : Launch) (D : va_G) (C : Nat → ClassId) (A : Nat → Nat) (u : St) (hI : IM u) (a0 : Int32) (A0 : Int) (ha0 : a0.toInt = A0) (a1 : Int32) (A1 : Int) (ha1 : a1.toInt = A1) (sz : Nat) : MetI l yX10_quorum cX10_quorum 3 (some .int) 5 [.ref (A 0), .int a0, .int a1] D (tyl C) (mw C A) X0 u sz (fun r u' => IM u' ∧ Un [(0, 0), (24, 24), (25, 25)] [(12, 12), (13, 13)] [] u u' ∧ (True)) := by
  refine mI (by decide) (Nat.le_of_ble_eq_true rfl) ?_
  intro p e s m below meth c ls ar Q hx hb hml hown hts hK hH hX hl hret
  have hown : s.vm.findClass RX10 = some m.cls := hown
  have hl : lv_has ls 3 [(0, .ref (A 0)), (1, .int a0), (2, .int a1)] := hl
  refine lv_aload_n hx hb dX10_quorum_0 rfl (lv_at hl 0 rfl) ?_
  refine lv_iconst (v := 0) hx hb dX10_quorum_1 (by decide) ?_
  refine r_put (j := 0) (ci := 10) (C := RX10) (T := TX10) (N := 42) hx hb hts (fun w h => uc_in w (inX10 w h)) tyX10 tyX10_ok nmX10 hown hK hH 0 (mwc0 C A u) rfl 0 (by decide) (hts _ (uc_in _ q_f1188)) (fun _ h9 => h9) rfl (by decide +kernel) (Nat.le_of_ble_eq_true rfl) (mws0 C A u _) dX10_quorum_2 (fun u1 eu1 H locs hH => ?_)
  have hI := hI.pi0 eu1 rfl
  refine lv_aload_n hx hb dX10_quorum_5 rfl (lv_at hl 0 rfl) ?_
  refine lv_iload_n hx hb dX10_quorum_6 rfl (lv_at hl 1 rfl) ?_
  refine lv_i2l (v := a0.toInt64) hx hb dX10_quorum_7 rfl ?_
  refine cvS (n := 1) (As := [.long a0.toInt64]) (rest := []) ⟨hx, hb, hml, hown, hts⟩ uc_in (kX10_isDay_0 l D C A u1 hI a0.toInt64 A0 (tt_i2l ha0)) q_m1473 q_n1475 q_p73 q_i11 q_c1476 hvX10_isDay ⟨(Nat.le_of_ble_eq_true rfl), (Nat.le_of_ble_eq_true rfl)⟩ ⟨(Nat.le_of_ble_eq_true rfl), (Nat.le_of_ble_eq_true rfl)⟩ hK hH.1 10 0 rfl (mwc0 C A u1) rfl hl.1 rfl (Nat.le_of_ble_eq_true rfl) dX10_quorum_8 (fun r2 p3 => ?_)
  rcases p3 with ⟨e9, f4, f5⟩ | e9
  · subst e9
    have b7 : 0 ≤ ((ga u1 7 0)).toInt ∧ ((ga u1 7 0)).toInt ≤ 7 := hI.has 0
    refine lv_if_eq (tgt := 26) hx hb dX10_quorum_11 (by decide) (fun c8 => absurd c8 (by decide)) (fun c8 => ?_)
    refine lv_iload_n hx hb dX10_quorum_14 rfl (lv_at hl 2 rfl) ?_
    refine lv_i2l (v := a1.toInt64) hx hb dX10_quorum_15 rfl ?_
    refine lv_lconst (v := 1) hx hb dX10_quorum_16 (by decide) ?_
    refine lv_ldc2 (v := 6) hx hb hown (hts _ (uc_in _ q_k1743)) dX10_quorum_17 ?_
    refine csS (n := 3) (As := [.long a1.toInt64, .long 1, .long 6]) (rest := []) ⟨hx, hb, hml, hown, hts⟩ uc_in (kX10_in_0 l D C A u1 hI a1.toInt64 A1 (tt_i2l ha1) (1) 1 (by decide) (6) 6 (by decide)) q_m1324 q_s1325 q_i11 q_c1326 hvX10_in ⟨(Nat.le_of_ble_eq_true rfl), (Nat.le_of_ble_eq_true rfl)⟩ ⟨(Nat.le_of_ble_eq_true rfl), (Nat.le_of_ble_eq_true rfl)⟩ hK hH.1 rfl hl.1 rfl (Nat.le_of_ble_eq_true rfl) dX10_quorum_20 (fun r9 p10 => ?_)
    rcases p10 with ⟨e9, f11, f12⟩ | ⟨e9, fn13⟩
    · subst e9
      refine lv_if_ne (tgt := 29) hx hb dX10_quorum_23 (by decide) (fun c14 => ?_) (fun c14 => absurd c14 (by decide))
      refine lv_aload_n hx hb dX10_quorum_29 rfl (lv_at hl 0 rfl) ?_
      refine cvU (n := 0) (As := []) (rest := []) ⟨hx, hb, hml, hown, hts⟩ uc_in (kX10_lays_0 l D C A u1 hI  _) q_m1481 q_n1483 q_p75 q_i11 q_c1484 hvX10_lays ⟨(Nat.le_of_ble_eq_true rfl), (Nat.le_of_ble_eq_true rfl)⟩ ⟨(Nat.le_of_ble_eq_true rfl), (Nat.le_of_ble_eq_true rfl)⟩ hK hH (fun q h => Or.inr h) Bl0 (fun _ _ _ => trivial) 10 0 rfl (mwc0 C A u1) rfl hl.1 rfl (Nat.le_of_ble_eq_true rfl) dX10_quorum_30 (fun u15 H locs p17 hH => ?_)
      obtain ⟨hI, hUu15, p17⟩ := p17
      refine lv_aload_n hx hb dX10_quorum_33 rfl (lv_at hl 0 rfl) ?_
      refine lv_iload_n hx hb dX10_quorum_34 rfl (lv_at hl 1 rfl) ?_
      refine lv_iload_n hx hb dX10_quorum_35 rfl (lv_at hl 2 rfl) ?_
      refine cvS (n := 2) (As := [.int a0, .int a1]) (rest := []) ⟨hx, hb, hml, hown, hts⟩ uc_in (kX10_quorumOf_0 l D C A u15 hI a0 A0 ha0 a1 A1 ha1 (by omega) (by omega)) q_m1744 q_n1746 q_p99 q_i11 q_c1747 hvX10_quorumOf ⟨(Nat.le_of_ble_eq_true rfl), (Nat.le_of_ble_eq_true rfl)⟩ ⟨(Nat.le_of_ble_eq_true rfl), (Nat.le_of_ble_eq_true rfl)⟩ hK hH.1 10 0 rfl (mwc0 C A u15) rfl hl.1 rfl (Nat.le_of_ble_eq_true rfl) dX10_quorum_36 (fun r18 p19 => ?_)
      exact hret _ _ _ _ r18 _ dX10_quorum_39 rfl ⟨hI, (Un.tr (Un.si Un.rf rfl eu1) hUu15 rfl rfl rfl), trivial⟩ hH
    · subst e9
      refine lv_if_ne (tgt := 29) hx hb dX10_quorum_23 (by decide) (fun c20 => absurd c20 (by decide)) (fun c20 => ?_)
      refine lv_bipush (v := (-2)) hx hb dX10_quorum_26 (by decide) ?_
      exact hret _ _ _ _ ((-2) : Int32) _ dX10_quorum_28 rfl ⟨hI, (Un.si Un.rf rfl eu1), trivial⟩ hH
  · subst e9
    refine lv_if_eq (tgt := 26) hx hb dX10_quorum_11 (by decide) (fun c21 => ?_) (fun c21 => absurd c21 (by decide))
    refine lv_bipush (v := (-2)) hx hb dX10_quorum_26 (by decide) ?_
    exact hret _ _ _ _ ((-2) : Int32) _ dX10_quorum_28 rfl ⟨hI, (Un.si Un.rf rfl eu1), trivial⟩ hH
set_option maxHeartbeats 4000000 in
set_option maxRecDepth 100000 in
theorem kX10_isRace_0 (l : Launch) (D : va_G) (C : Nat → ClassId) (A : Nat → Nat) (u : St) (hI : IM u) (a0 : Int32) (A0 : Int) (ha0 : a0.toInt = A0) (a1 : Int32) (A1 : Int) (ha1 : a1.toInt = A1) (a2 : Int32) (A2 : Int) (ha2 : a2.toInt = A2) (sz : Nat) : MetI l yX10_isRace cX10_isRace 4 (some .boolean) 4 [.ref (A 0), .int a0, .int a1, .int a2] D (tyl C) (mw C A) X0 u sz (fun r u' => IM u' ∧ Un [(24, 24), (25, 25)] [(12, 12), (13, 13)] [] u u' ∧ ((r = 1 ∧ 0 ≤ A0 ∧ A0 ≤ 5 ∧ 0 ≤ A1 ∧ A1 ≤ 5 ∧ 0 ≤ A2 ∧ A2 ≤ 6) ∨ r = 0)) := by
  refine mI (by decide) (Nat.le_of_ble_eq_true rfl) ?_
  intro p e s m below meth c ls ar Q hx hb hml hown hts hK hH hX hl hret
  have hown : s.vm.findClass RX10 = some m.cls := hown
  have hl : lv_has ls 4 [(0, .ref (A 0)), (1, .int a0), (2, .int a1), (3, .int a2)] := hl
  refine lv_aload_n hx hb dX10_isRace_0 rfl (lv_at hl 0 rfl) ?_
  refine lv_iload_n hx hb dX10_isRace_1 rfl (lv_at hl 1 rfl) ?_
  refine lv_i2l (v := a0.toInt64) hx hb dX10_isRace_2 rfl ?_
  refine cvS (n := 1) (As := [.long a0.toInt64]) (rest := []) ⟨hx, hb, hml, hown, hts⟩ uc_in (kX10_isClock_0 l D C A u hI a0.toInt64 A0 (tt_i2l ha0)) q_m1460 q_n1462 q_p71 q_i11 q_c1463 hvX10_isClock ⟨(Nat.le_of_ble_eq_true rfl), (Nat.le_of_ble_eq_true rfl)⟩ ⟨(Nat.le_of_ble_eq_true rfl), (Nat.le_of_ble_eq_true rfl)⟩ hK hH.1 10 0 rfl (mwc0 C A u) rfl hl.1 rfl (Nat.le_of_ble_eq_true rfl) dX10_isRace_3 (fun r1 p2 => ?_)
  rcases p2 with ⟨e9, f3, f4⟩ | e9
  · subst e9
    have b6 : 0 ≤ ((ga u 7 3)).toInt ∧ ((ga u 7 3)).toInt ≤ 6 := hI.has 3
    refine lv_if_eq (tgt := 32) hx hb dX10_isRace_6 (by decide) (fun c7 => absurd c7 (by decide)) (fun c7 => ?_)
    refine lv_aload_n hx hb dX10_isRace_9 rfl (lv_at hl 0 rfl) ?_
    refine lv_iload_n hx hb dX10_isRace_10 rfl (lv_at hl 2 rfl) ?_
    refine lv_i2l (v := a1.toInt64) hx hb dX10_isRace_11 rfl ?_
    refine cvS (n := 1) (As := [.long a1.toInt64]) (rest := []) ⟨hx, hb, hml, hown, hts⟩ uc_in (kX10_isClock_0 l D C A u hI a1.toInt64 A1 (tt_i2l ha1)) q_m1460 q_n1462 q_p71 q_i11 q_c1463 hvX10_isClock ⟨(Nat.le_of_ble_eq_true rfl), (Nat.le_of_ble_eq_true rfl)⟩ ⟨(Nat.le_of_ble_eq_true rfl), (Nat.le_of_ble_eq_true rfl)⟩ hK hH.1 10 0 rfl (mwc0 C A u) rfl hl.1 rfl (Nat.le_of_ble_eq_true rfl) dX10_isRace_12 (fun r8 p9 => ?_)
    rcases p9 with ⟨e9, f10, f11⟩ | e9
    · subst e9
      refine lv_if_eq (tgt := 32) hx hb dX10_isRace_15 (by decide) (fun c12 => absurd c12 (by decide)) (fun c12 => ?_)
      refine lv_iload_n hx hb dX10_isRace_18 rfl (lv_at hl 1 rfl) ?_
      refine lv_iload_n hx hb dX10_isRace_19 rfl (lv_at hl 2 rfl) ?_
      refine lv_icmp_eq (tgt := 32) hx hb dX10_isRace_20 (by decide) (fun c13 => ?_) (fun c13 => ?_)
      · have c13 := cEQ (x := a0) (y := a1) (X := A0) (Y := A1) ha0 ha1 c13
        refine lv_iconst (v := 0) hx hb dX10_isRace_32 (by decide) ?_
        exact hret _ _ _ _ (0 : Int32) _ dX10_isRace_33 rfl ⟨hI, Un.rf, (Or.inr rfl)⟩ hH
      · refine lv_aload_n hx hb dX10_isRace_23 rfl (lv_at hl 0 rfl) ?_
        refine lv_iload_n hx hb dX10_isRace_24 rfl (lv_at hl 3 rfl) ?_
        refine lv_i2l (v := a2.toInt64) hx hb dX10_isRace_25 rfl ?_
        refine cvS (n := 1) (As := [.long a2.toInt64]) (rest := []) ⟨hx, hb, hml, hown, hts⟩ uc_in (kX10_isDay_0 l D C A u hI a2.toInt64 A2 (tt_i2l ha2)) q_m1473 q_n1475 q_p73 q_i11 q_c1476 hvX10_isDay ⟨(Nat.le_of_ble_eq_true rfl), (Nat.le_of_ble_eq_true rfl)⟩ ⟨(Nat.le_of_ble_eq_true rfl), (Nat.le_of_ble_eq_true rfl)⟩ hK hH.1 10 0 rfl (mwc0 C A u) rfl hl.1 rfl (Nat.le_of_ble_eq_true rfl) dX10_isRace_26 (fun r14 p15 => ?_)
        rcases p15 with ⟨e9, f16, f17⟩ | e9
        · subst e9
          have b19 : 0 ≤ ((ga u 7 0)).toInt ∧ ((ga u 7 0)).toInt ≤ 7 := hI.has 0
          refine lv_if_ne (tgt := 34) hx hb dX10_isRace_29 (by decide) (fun c20 => ?_) (fun c20 => absurd c20 (by decide))
          refine lv_aload_n hx hb dX10_isRace_34 rfl (lv_at hl 0 rfl) ?_
          refine cvU (n := 0) (As := []) (rest := []) ⟨hx, hb, hml, hown, hts⟩ uc_in (kX10_lays_0 l D C A u hI  _) q_m1481 q_n1483 q_p75 q_i11 q_c1484 hvX10_lays ⟨(Nat.le_of_ble_eq_true rfl), (Nat.le_of_ble_eq_true rfl)⟩ ⟨(Nat.le_of_ble_eq_true rfl), (Nat.le_of_ble_eq_true rfl)⟩ hK hH (fun q h => Or.inr h) Bl0 (fun _ _ _ => trivial) 10 0 rfl (mwc0 C A u) rfl hl.1 rfl (Nat.le_of_ble_eq_true rfl) dX10_isRace_35 (fun u21 H locs p23 hH => ?_)
          obtain ⟨hI, hUu21, p23⟩ := p23
          refine lv_aload_n hx hb dX10_isRace_38 rfl (lv_at hl 0 rfl) ?_
          refine va_get (ci := 10) (v := .ref (A 13)) (C := RX10) (T := TX10) (N := 42) hx hb hts (fun w h => uc_in w (inX10 w h)) hown hK hH.1 0 (mwc0 C A u21) rfl 23 (by decide) (hts _ (uc_in _ q_f1211)) (fun _ h9 => h9) rfl dX10_isRace_39 ?_
          refine lv_bipush (v := 6) hx hb dX10_isRace_42 (by decide) ?_
          refine lv_iload_n hx hb dX10_isRace_44 rfl (lv_at hl 3 rfl) ?_
          refine lv_imul hx hb dX10_isRace_45 ?_
          refine p_nm (tt_mul (X := 6) (Y := A2) (by decide) ha2 (by omega) (by omega)) (fun z24 hz24 => ?_)
          refine lv_iload_n hx hb dX10_isRace_46 rfl (lv_at hl 1 rfl) ?_
          refine lv_iadd hx hb dX10_isRace_47 ?_
          refine p_nm (tt_add (X := (6 * A2)) (Y := A0) hz24 ha0 (by omega) (by omega)) (fun z25 hz25 => ?_)
          refine va_zald hx hb hK hH.1 13 3 (mwc13 C A u21) rfl (i_ix hz25 (by omega) (by omega)) dX10_isRace_48 ?_
          refine p_any (fun z26 => ?_)
          refine lv_if_eq (tgt := 104) hx hb dX10_isRace_49 (by decide) (fun c27 => ?_) (fun c27 => ?_)
          · have c27 := cEQ (x := z26) (y := 0) (X := z26.toInt) (Y := 0) rfl (by decide) c27
            refine lv_iconst (v := 0) hx hb dX10_isRace_104 (by decide) ?_
            exact hret _ _ _ _ (0 : Int32) _ dX10_isRace_105 rfl ⟨hI, (Un.tr Un.rf hUu21 rfl rfl rfl), (Or.inr rfl)⟩ hH
          · refine lv_aload_n hx hb dX10_isRace_52 rfl (lv_at hl 0 rfl) ?_
            refine va_get (ci := 10) (v := .ref (A 13)) (C := RX10) (T := TX10) (N := 42) hx hb hts (fun w h => uc_in w (inX10 w h)) hown hK hH.1 0 (mwc0 C A u21) rfl 23 (by decide) (hts _ (uc_in _ q_f1211)) (fun _ h9 => h9) rfl dX10_isRace_53 ?_
            refine lv_bipush (v := 6) hx hb dX10_isRace_56 (by decide) ?_
            refine lv_iload_n hx hb dX10_isRace_58 rfl (lv_at hl 3 rfl) ?_
            refine lv_imul hx hb dX10_isRace_59 ?_
            refine p_nm (tt_mul (X := 6) (Y := A2) (by decide) ha2 (by omega) (by omega)) (fun z28 hz28 => ?_)
            refine lv_iload_n hx hb dX10_isRace_60 rfl (lv_at hl 2 rfl) ?_
            refine lv_iadd hx hb dX10_isRace_61 ?_
            refine p_nm (tt_add (X := (6 * A2)) (Y := A1) hz28 ha1 (by omega) (by omega)) (fun z29 hz29 => ?_)
            refine va_zald hx hb hK hH.1 13 3 (mwc13 C A u21) rfl (i_ix hz29 (by omega) (by omega)) dX10_isRace_62 ?_
            refine p_any (fun z30 => ?_)
            refine lv_if_eq (tgt := 104) hx hb dX10_isRace_63 (by decide) (fun c31 => ?_) (fun c31 => ?_)
            · have c31 := cEQ (x := z30) (y := 0) (X := z30.toInt) (Y := 0) rfl (by decide) c31
              refine lv_iconst (v := 0) hx hb dX10_isRace_104 (by decide) ?_
              exact hret _ _ _ _ (0 : Int32) _ dX10_isRace_105 rfl ⟨hI, (Un.tr Un.rf hUu21 rfl rfl rfl), (Or.inr rfl)⟩ hH
            · refine lv_aload_n hx hb dX10_isRace_66 rfl (lv_at hl 0 rfl) ?_
              refine va_get (ci := 10) (v := .ref (A 12)) (C := RX10) (T := TX10) (N := 42) hx hb hts (fun w h => uc_in w (inX10 w h)) hown hK hH.1 0 (mwc0 C A u21) rfl 22 (by decide) (hts _ (uc_in _ q_f1210)) (fun _ h9 => h9) rfl dX10_isRace_67 ?_
              refine lv_bipush (v := 6) hx hb dX10_isRace_70 (by decide) ?_
              refine lv_iload_n hx hb dX10_isRace_72 rfl (lv_at hl 3 rfl) ?_
              refine lv_imul hx hb dX10_isRace_73 ?_
              refine p_nm (tt_mul (X := 6) (Y := A2) (by decide) ha2 (by omega) (by omega)) (fun z32 hz32 => ?_)
              refine lv_iload_n hx hb dX10_isRace_74 rfl (lv_at hl 1 rfl) ?_
              refine lv_iadd hx hb dX10_isRace_75 ?_
              refine p_nm (tt_add (X := (6 * A2)) (Y := A0) hz32 ha0 (by omega) (by omega)) (fun z33 hz33 => ?_)
              refine va_iald hx hb hK hH.1 12 1 (mwc12 C A u21) rfl (i_ix hz33 (by omega) (by omega)) dX10_isRace_76 ?_
              refine p_any (fun z34 => ?_)
              refine lv_sipush (v := 10000) hx hb dX10_isRace_77 (by decide) ?_
              refine lv_icmp_eq (tgt := 104) hx hb dX10_isRace_80 (by decide) (fun c35 => ?_) (fun c35 => ?_)
              · have c35 := cEQ (x := z34) (y := 10000) (X := z34.toInt) (Y := 10000) rfl (by decide) c35
                refine lv_iconst (v := 0) hx hb dX10_isRace_104 (by decide) ?_
                exact hret _ _ _ _ (0 : Int32) _ dX10_isRace_105 rfl ⟨hI, (Un.tr Un.rf hUu21 rfl rfl rfl), (Or.inr rfl)⟩ hH
              · refine lv_aload_n hx hb dX10_isRace_83 rfl (lv_at hl 0 rfl) ?_
                refine va_get (ci := 10) (v := .ref (A 12)) (C := RX10) (T := TX10) (N := 42) hx hb hts (fun w h => uc_in w (inX10 w h)) hown hK hH.1 0 (mwc0 C A u21) rfl 22 (by decide) (hts _ (uc_in _ q_f1210)) (fun _ h9 => h9) rfl dX10_isRace_84 ?_
                refine lv_bipush (v := 6) hx hb dX10_isRace_87 (by decide) ?_
                refine lv_iload_n hx hb dX10_isRace_89 rfl (lv_at hl 3 rfl) ?_
                refine lv_imul hx hb dX10_isRace_90 ?_
                refine p_nm (tt_mul (X := 6) (Y := A2) (by decide) ha2 (by omega) (by omega)) (fun z36 hz36 => ?_)
                refine lv_iload_n hx hb dX10_isRace_91 rfl (lv_at hl 2 rfl) ?_
                refine lv_iadd hx hb dX10_isRace_92 ?_
                refine p_nm (tt_add (X := (6 * A2)) (Y := A1) hz36 ha1 (by omega) (by omega)) (fun z37 hz37 => ?_)
                refine va_iald hx hb hK hH.1 12 1 (mwc12 C A u21) rfl (i_ix hz37 (by omega) (by omega)) dX10_isRace_93 ?_
                refine p_any (fun z38 => ?_)
                refine lv_sipush (v := 10000) hx hb dX10_isRace_94 (by decide) ?_
                refine lv_icmp_eq (tgt := 104) hx hb dX10_isRace_97 (by decide) (fun c39 => ?_) (fun c39 => ?_)
                · have c39 := cEQ (x := z38) (y := 10000) (X := z38.toInt) (Y := 10000) rfl (by decide) c39
                  refine lv_iconst (v := 0) hx hb dX10_isRace_104 (by decide) ?_
                  exact hret _ _ _ _ (0 : Int32) _ dX10_isRace_105 rfl ⟨hI, (Un.tr Un.rf hUu21 rfl rfl rfl), (Or.inr rfl)⟩ hH
                · refine lv_iconst (v := 1) hx hb dX10_isRace_100 (by decide) ?_
                  refine lv_goto (tgt := 105) hx hb dX10_isRace_101 (by decide) ?_
                  exact hret _ _ _ _ (1 : Int32) _ dX10_isRace_105 rfl ⟨hI, (Un.tr Un.rf hUu21 rfl rfl rfl), (Or.inl ⟨rfl, by omega, by omega, by omega, by omega, by omega, by omega⟩)⟩ hH
        · subst e9
          refine lv_if_ne (tgt := 34) hx hb dX10_isRace_29 (by decide) (fun c40 => absurd c40 (by decide)) (fun c40 => ?_)
          refine lv_iconst (v := 0) hx hb dX10_isRace_32 (by decide) ?_
          exact hret _ _ _ _ (0 : Int32) _ dX10_isRace_33 rfl ⟨hI, Un.rf, (Or.inr rfl)⟩ hH
    · subst e9
      refine lv_if_eq (tgt := 32) hx hb dX10_isRace_15 (by decide) (fun c41 => ?_) (fun c41 => absurd c41 (by decide))
      refine lv_iconst (v := 0) hx hb dX10_isRace_32 (by decide) ?_
      exact hret _ _ _ _ (0 : Int32) _ dX10_isRace_33 rfl ⟨hI, Un.rf, (Or.inr rfl)⟩ hH
  · subst e9
    refine lv_if_eq (tgt := 32) hx hb dX10_isRace_6 (by decide) (fun c42 => ?_) (fun c42 => absurd c42 (by decide))
    refine lv_iconst (v := 0) hx hb dX10_isRace_32 (by decide) ?_
    exact hret _ _ _ _ (0 : Int32) _ dX10_isRace_33 rfl ⟨hI, Un.rf, (Or.inr rfl)⟩ hH
set_option maxHeartbeats 4000000 in
set_option maxRecDepth 100000 in
theorem kX10_racer_0 (l : Launch) (D : va_G) (C : Nat → ClassId) (A : Nat → Nat) (u : St) (hI : IM u) (a0 : Int32) (A0 : Int) (ha0 : a0.toInt = A0) (a1 : Int32) (A1 : Int) (ha1 : a1.toInt = A1) (a2 : Int32) (A2 : Int) (ha2 : a2.toInt = A2) (a3 : Int32) (A3 : Int) (ha3 : a3.toInt = A3) (a4 : Int32) (A4 : Int) (ha4 : a4.toInt = A4) (a5 : Int32) (A5 : Int) (ha5 : a5.toInt = A5) (hl1 : 0 ≤ A1) (hm1 : A1 ≤ 5) (hl2 : 0 ≤ A2) (hm2 : A2 ≤ 5) (hl3 : 0 ≤ A3) (hm3 : A3 ≤ 6) (sz : Nat) : MetI l yX10_racer cX10_racer 9 (some .int) 5 [.ref (A 0), .int a0, .int a1, .int a2, .int a3, .int a4, .int a5] D (tyl C) (mw C A) X0 u sz (fun r u' => IM u' ∧ Un [(34, 34)] [(12, 12)] [] u u' ∧ (True)) := by
  refine mI (by decide) (Nat.le_of_ble_eq_true rfl) ?_
  intro p e s m below meth c ls ar Q hx hb hml hown hts hK hH hX hl hret
  have hown : s.vm.findClass RX10 = some m.cls := hown
  have hl : lv_has ls 9 [(0, .ref (A 0)), (1, .int a0), (2, .int a1), (3, .int a2), (4, .int a3), (5, .int a4), (6, .int a5)] := hl
  refine lv_aload_n hx hb dX10_racer_0 rfl (lv_at hl 0 rfl) ?_
  refine va_get (ci := 10) (v := .ref (A 12)) (C := RX10) (T := TX10) (N := 42) hx hb hts (fun w h => uc_in w (inX10 w h)) hown hK hH.1 0 (mwc0 C A u) rfl 22 (by decide) (hts _ (uc_in _ q_f1210)) (fun _ h9 => h9) rfl dX10_racer_1 ?_
  refine lv_bipush (v := 6) hx hb dX10_racer_4 (by decide) ?_
  refine lv_iload hx hb dX10_racer_6 (lv_at hl 4 rfl) ?_
  refine lv_imul hx hb dX10_racer_8 ?_
  refine p_nm (tt_mul (X := 6) (Y := A3) (by decide) ha3 (by omega) (by omega)) (fun z1 hz1 => ?_)
  refine lv_iload_n hx hb dX10_racer_9 rfl (lv_at hl 2 rfl) ?_
  refine lv_iadd hx hb dX10_racer_10 ?_
  refine p_nm (tt_add (X := (6 * A3)) (Y := A1) hz1 ha1 (by omega) (by omega)) (fun z2 hz2 => ?_)
  refine lv_dup2_11 hx hb dX10_racer_11 rfl rfl ?_
  refine va_iald hx hb hK hH.1 12 1 (mwc12 C A u) rfl (i_ix hz2 (by omega) (by omega)) dX10_racer_12 ?_
  refine p_any (fun z3 => ?_)
  refine lv_iload hx hb dX10_racer_13 (lv_at hl 5 rfl) ?_
  refine lv_iadd hx hb dX10_racer_15 ?_
  refine p_any (fun z4 => ?_)
  refine r_iast (j := 12) hx hb hK hH 12 1 (mwc12 C A u) rfl (i_ix hz2 (by omega) (by omega)) (mwa12 C A u) dX10_racer_16 (fun u5 eu5 H locs hH => ?_)
  have hI := hI.pa0 eu5 (by decide) (by decide) (by decide)
  refine lv_aload_n hx hb dX10_racer_17 rfl (lv_at hl 0 rfl) ?_
  refine va_get (ci := 10) (v := .ref (A 12)) (C := RX10) (T := TX10) (N := 42) hx hb hts (fun w h => uc_in w (inX10 w h)) hown hK hH.1 0 (mwc0 C A u5) rfl 22 (by decide) (hts _ (uc_in _ q_f1210)) (fun _ h9 => h9) rfl dX10_racer_18 ?_
  refine lv_bipush (v := 6) hx hb dX10_racer_21 (by decide) ?_
  refine lv_iload hx hb dX10_racer_23 (lv_at hl 4 rfl) ?_
  refine lv_imul hx hb dX10_racer_25 ?_
  refine p_nm (tt_mul (X := 6) (Y := A3) (by decide) ha3 (by omega) (by omega)) (fun z6 hz6 => ?_)
  refine lv_iload_n hx hb dX10_racer_26 rfl (lv_at hl 3 rfl) ?_
  refine lv_iadd hx hb dX10_racer_27 ?_
  refine p_nm (tt_add (X := (6 * A3)) (Y := A2) hz6 ha2 (by omega) (by omega)) (fun z7 hz7 => ?_)
  refine lv_dup2_11 hx hb dX10_racer_28 rfl rfl ?_
  refine va_iald hx hb hK hH.1 12 1 (mwc12 C A u5) rfl (i_ix hz7 (by omega) (by omega)) dX10_racer_29 ?_
  refine p_any (fun z8 => ?_)
  refine lv_iload hx hb dX10_racer_30 (lv_at hl 6 rfl) ?_
  refine lv_iadd hx hb dX10_racer_32 ?_
  refine p_any (fun z9 => ?_)
  refine r_iast (j := 12) hx hb hK hH 12 1 (mwc12 C A u5) rfl (i_ix hz7 (by omega) (by omega)) (mwa12 C A u5) dX10_racer_33 (fun u10 eu10 H locs hH => ?_)
  have hI := hI.pa0 eu10 (by decide) (by decide) (by decide)
  refine lv_aload_n hx hb dX10_racer_34 rfl (lv_at hl 0 rfl) ?_
  refine lv_iload hx hb dX10_racer_35 (lv_at hl 4 rfl) ?_
  refine lv_aload_n hx hb dX10_racer_37 rfl (lv_at hl 0 rfl) ?_
  refine lv_iload hx hb dX10_racer_38 (lv_at hl 4 rfl) ?_
  refine cvS (n := 1) (As := [.int a3]) (rest := [.int a3, .ref (A 0)]) ⟨hx, hb, hml, hown, hts⟩ uc_in (kX10_countsOf_0 l D C A u10 hI a3 A3 ha3 (by omega) (by omega)) q_m1500 q_n1502 q_p78 q_i11 q_c1503 hvX10_countsOf ⟨(Nat.le_of_ble_eq_true rfl), (Nat.le_of_ble_eq_true rfl)⟩ ⟨(Nat.le_of_ble_eq_true rfl), (Nat.le_of_ble_eq_true rfl)⟩ hK hH.1 10 0 rfl (mwc0 C A u10) rfl hl.1 rfl (Nat.le_of_ble_eq_true rfl) dX10_racer_40 (fun r11 p12 => ?_)
  have g13 : (ga u10 7 3).toInt ≤ 6 := (hI.has 3).2
  have br11 : 0 ≤ r11.toInt ∧ r11.toInt ≤ 63 := ⟨p12.1, p12.2.1⟩
  refine cvS (n := 2) (As := [.int a3, .int r11]) (rest := []) ⟨hx, hb, hml, hown, hts⟩ uc_in (kX10_lastOf_0 l D C A u10 hI a3 A3 ha3 r11 r11.toInt rfl (by omega) (by omega)) q_m1508 q_n1510 q_p80 q_i11 q_c1511 hvX10_lastOf ⟨(Nat.le_of_ble_eq_true rfl), (Nat.le_of_ble_eq_true rfl)⟩ ⟨(Nat.le_of_ble_eq_true rfl), (Nat.le_of_ble_eq_true rfl)⟩ hK hH.1 10 0 rfl (mwc0 C A u10) rfl hl.1 rfl (Nat.le_of_ble_eq_true rfl) dX10_racer_43 (fun r14 p15 => ?_)
  have br14 : -1 ≤ r14.toInt ∧ r14.toInt ≤ 5 := ⟨p15.1, p15.2.1⟩
  refine lv_istore (lv' := [(7, .int r14), (0, .ref (A 0)), (1, .int a0), (2, .int a1), (3, .int a2), (4, .int a3), (5, .int a4), (6, .int a5)]) hx hb dX10_racer_46 hl (by decide) rfl (fun ls hl => ?_)
  refine lv_aload_n hx hb dX10_racer_48 rfl (lv_at hl 1 rfl) ?_
  refine lv_aload_n hx hb dX10_racer_49 rfl (lv_at hl 1 rfl) ?_
  refine lv_iload hx hb dX10_racer_50 (lv_at hl 5 rfl) ?_
  refine cvS (n := 1) (As := [.int a3]) (rest := [.ref (A 0)]) ⟨hx, hb, hml, hown, hts⟩ uc_in (kX10_noonOf__0 l D C A u10 hI a3 A3 ha3 (by omega) (by omega)) q_m1496 q_n1498 q_p77 q_i11 q_c1499 hvX10_noonOf_ ⟨(Nat.le_of_ble_eq_true rfl), (Nat.le_of_ble_eq_true rfl)⟩ ⟨(Nat.le_of_ble_eq_true rfl), (Nat.le_of_ble_eq_true rfl)⟩ hK hH.1 10 0 rfl (mwc0 C A u10) rfl hl.1 rfl (Nat.le_of_ble_eq_true rfl) dX10_racer_52 (fun r16 p17 => ?_)
  refine r_put (j := 34) (ci := 10) (C := RX10) (T := TX10) (N := 42) hx hb hts (fun w h => uc_in w (inX10 w h)) tyX10 tyX10_ok nmX10 hown hK hH 0 (mwc0 C A u10) rfl 34 (by decide) (hts _ (uc_in _ q_f1222)) (fun _ h9 => h9) rfl (by decide +kernel) (Nat.le_of_ble_eq_true rfl) (mws34 C A u10 _) dX10_racer_55 (fun u18 eu18 H locs hH => ?_)
  have hI := hI.pi0 eu18 rfl
  refine lv_aload_n hx hb dX10_racer_58 rfl (lv_at hl 1 rfl) ?_
  refine va_get (ci := 10) (v := .ref (A 12)) (C := RX10) (T := TX10) (N := 42) hx hb hts (fun w h => uc_in w (inX10 w h)) hown hK hH.1 0 (mwc0 C A u18) rfl 22 (by decide) (hts _ (uc_in _ q_f1210)) (fun _ h9 => h9) rfl dX10_racer_59 ?_
  refine lv_bipush (v := 6) hx hb dX10_racer_62 (by decide) ?_
  refine lv_iload hx hb dX10_racer_64 (lv_at hl 5 rfl) ?_
  refine lv_imul hx hb dX10_racer_66 ?_
  refine p_nm (tt_mul (X := 6) (Y := A3) (by decide) ha3 (by omega) (by omega)) (fun z19 hz19 => ?_)
  refine lv_iload_n hx hb dX10_racer_67 rfl (lv_at hl 3 rfl) ?_
  refine lv_iadd hx hb dX10_racer_68 ?_
  refine p_nm (tt_add (X := (6 * A3)) (Y := A1) hz19 ha1 (by omega) (by omega)) (fun z20 hz20 => ?_)
  refine lv_dup2_11 hx hb dX10_racer_69 rfl rfl ?_
  refine va_iald hx hb hK hH.1 12 1 (mwc12 C A u18) rfl (i_ix hz20 (by omega) (by omega)) dX10_racer_70 ?_
  refine p_any (fun z21 => ?_)
  refine lv_iload hx hb dX10_racer_71 (lv_at hl 6 rfl) ?_
  refine lv_isub hx hb dX10_racer_73 ?_
  refine p_any (fun z22 => ?_)
  refine r_iast (j := 12) hx hb hK hH 12 1 (mwc12 C A u18) rfl (i_ix hz20 (by omega) (by omega)) (mwa12 C A u18) dX10_racer_74 (fun u23 eu23 H locs hH => ?_)
  have hI := hI.pa0 eu23 (by decide) (by decide) (by decide)
  refine lv_aload_n hx hb dX10_racer_75 rfl (lv_at hl 1 rfl) ?_
  refine va_get (ci := 10) (v := .ref (A 12)) (C := RX10) (T := TX10) (N := 42) hx hb hts (fun w h => uc_in w (inX10 w h)) hown hK hH.1 0 (mwc0 C A u23) rfl 22 (by decide) (hts _ (uc_in _ q_f1210)) (fun _ h9 => h9) rfl dX10_racer_76 ?_
  refine lv_bipush (v := 6) hx hb dX10_racer_79 (by decide) ?_
  refine lv_iload hx hb dX10_racer_81 (lv_at hl 5 rfl) ?_
  refine lv_imul hx hb dX10_racer_83 ?_
  refine p_nm (tt_mul (X := 6) (Y := A3) (by decide) ha3 (by omega) (by omega)) (fun z24 hz24 => ?_)
  refine lv_iload_n hx hb dX10_racer_84 rfl (lv_at hl 4 rfl) ?_
  refine lv_iadd hx hb dX10_racer_85 ?_
  refine p_nm (tt_add (X := (6 * A3)) (Y := A2) hz24 ha2 (by omega) (by omega)) (fun z25 hz25 => ?_)
  refine lv_dup2_11 hx hb dX10_racer_86 rfl rfl ?_
  refine va_iald hx hb hK hH.1 12 1 (mwc12 C A u23) rfl (i_ix hz25 (by omega) (by omega)) dX10_racer_87 ?_
  refine p_any (fun z26 => ?_)
  refine lv_iload hx hb dX10_racer_88 (lv_at hl 7 rfl) ?_
  refine lv_isub hx hb dX10_racer_90 ?_
  refine p_any (fun z27 => ?_)
  refine r_iast (j := 12) hx hb hK hH 12 1 (mwc12 C A u23) rfl (i_ix hz25 (by omega) (by omega)) (mwa12 C A u23) dX10_racer_91 (fun u28 eu28 H locs hH => ?_)
  have hI := hI.pa0 eu28 (by decide) (by decide) (by decide)
  refine lv_iload_n hx hb dX10_racer_92 rfl (lv_at hl 2 rfl) ?_
  have j101_41 : ∀ (ls : Array Slot) (y30d : Int32), 0 ≤ y30d.toInt → y30d.toInt ≤ 5 → lv_has ls 9 [(7, .int r14), (0, .ref (A 0)), (1, .int a0), (5, .int a4), (6, .int a5)] → W p l e (rmL 5 0 0) s m ar below meth c H locs 0 0 Q (F0 m 101 ls [.int y30d]) := by
    intro ls y30d ly30d my30d hl
    refine lv_istore (lv' := [(8, .int y30d), (7, .int r14), (0, .ref (A 0)), (1, .int a0), (5, .int a4), (6, .int a5)]) hx hb dX10_racer_101 hl (by decide) rfl (fun ls hl => ?_)
    refine lv_iload hx hb dX10_racer_103 (lv_at hl 1 rfl) ?_
    refine lv_iload hx hb dX10_racer_105 (lv_at hl 0 rfl) ?_
    have j125_53 : ∀ (ls : Array Slot) (y47d : Int32), lv_has ls 9 [(1, .int a0), (5, .int a4), (6, .int a5)] → W p l e (rmL 5 0 0) s m ar below meth c H locs 0 0 Q (F0 m 125 ls [.int y47d]) := by
      intro ls y47d hl
      refine lv_bipush (v := 10) hx hb dX10_racer_125 (by decide) ?_
      refine lv_iload_n hx hb dX10_racer_127 rfl (lv_at hl 0 rfl) ?_
      refine lv_if_ne (tgt := 136) hx hb dX10_racer_128 (by decide) (fun c55 => ?_) (fun c55 => ?_)
      · refine lv_iload hx hb dX10_racer_136 (lv_at hl 2 rfl) ?_
        refine lv_imul hx hb dX10_racer_138 ?_
        refine p_any (fun z56 => ?_)
        refine lv_isub hx hb dX10_racer_139 ?_
        refine p_any (fun z57 => ?_)
        exact hret _ _ _ _ z57 _ dX10_racer_140 rfl ⟨hI, (Un.sa (Un.sa (Un.si (Un.sa (Un.sa Un.rf rfl eu5) rfl eu10) rfl eu18) rfl eu23) rfl eu28), trivial⟩ hH
      · have c55 := cEQ (x := a0) (y := 0) (X := A0) (Y := 0) ha0 (by decide) c55
        refine lv_iload hx hb dX10_racer_131 (lv_at hl 1 rfl) ?_
        refine lv_goto (tgt := 138) hx hb dX10_racer_133 (by decide) ?_
        refine lv_imul hx hb dX10_racer_138 ?_
        refine p_any (fun z58 => ?_)
        refine lv_isub hx hb dX10_racer_139 ?_
        refine p_any (fun z59 => ?_)
        exact hret _ _ _ _ z59 _ dX10_racer_140 rfl ⟨hI, (Un.sa (Un.sa (Un.si (Un.sa (Un.sa Un.rf rfl eu5) rfl eu10) rfl eu18) rfl eu23) rfl eu28), trivial⟩ hH
    refine lv_icmp_ne (tgt := 124) hx hb dX10_racer_107 (by decide) (fun c43 => ?_) (fun c43 => ?_)
    · refine lv_iconst (v := 0) hx hb dX10_racer_124 (by decide) ?_
      exact j125_53 ls 0 (lv_sub hl [3, 4, 5] rfl)
    · have c43 := cEQ (x := r14) (y := y30d) (X := r14.toInt) (Y := y30d.toInt) rfl rfl c43
      refine lv_aload_n hx hb dX10_racer_110 rfl (lv_at hl 2 rfl) ?_
      refine va_get (ci := 10) (v := .ref (A 8)) (C := RX10) (T := TX10) (N := 42) hx hb hts (fun w h => uc_in w (inX10 w h)) hown hK hH.1 0 (mwc0 C A u28) rfl 18 (by decide) (hts _ (uc_in _ q_f1206)) (fun _ h9 => h9) rfl dX10_racer_111 ?_
      refine lv_iconst (v := 5) hx hb dX10_racer_114 (by decide) ?_
      refine lv_iload hx hb dX10_racer_115 (lv_at hl 0 rfl) ?_
      refine lv_imul hx hb dX10_racer_117 ?_
      refine p_nm (tt_mul (X := 5) (Y := y30d.toInt) (by decide) rfl (by omega) (by omega)) (fun z60 hz60 => ?_)
      refine lv_iconst (v := 3) hx hb dX10_racer_118 (by decide) ?_
      refine lv_iadd hx hb dX10_racer_119 ?_
      refine p_nm (tt_add (X := (5 * y30d.toInt)) (Y := 3) hz60 (by decide) (by omega) (by omega)) (fun z61 hz61 => ?_)
      refine va_iald hx hb hK hH.1 8 1 (mwc8 C A u28) rfl (i_ix hz61 (by omega) (by omega)) dX10_racer_120 ?_
      refine p_any (fun z62 => ?_)
      refine lv_goto (tgt := 125) hx hb dX10_racer_121 (by decide) ?_
      exact j125_53 ls z62 (lv_sub hl [3, 4, 5] rfl)
  refine lv_if_ne (tgt := 100) hx hb dX10_racer_93 (by decide) (fun c29 => ?_) (fun c29 => ?_)
  · refine lv_iload_n hx hb dX10_racer_100 rfl (lv_at hl 4 rfl) ?_
    exact j101_41 ls a2 (by have q9 := (show a2.toInt = A2 from ha2); omega) (by have q9 := (show a2.toInt = A2 from ha2); omega) (lv_sub hl [0, 1, 2, 6, 7] rfl)
  · have c29 := cEQ (x := a0) (y := 0) (X := A0) (Y := 0) ha0 (by decide) c29
    refine lv_iload_n hx hb dX10_racer_96 rfl (lv_at hl 3 rfl) ?_
    refine lv_goto (tgt := 101) hx hb dX10_racer_97 (by decide) ?_
    exact j101_41 ls a1 (by have q9 := (show a1.toInt = A1 from ha1); omega) (by have q9 := (show a1.toInt = A1 from ha1); omega) (lv_sub hl [0, 1, 2, 6, 7] rfl)
set_option maxHeartbeats 4000000 in
set_option maxRecDepth 100000 in
theorem kX10_isRest_0 (l : Launch) (D : va_G) (C : Nat → ClassId) (A : Nat → Nat) (u : St) (hI : IM u) (a0 : Int32) (A0 : Int) (ha0 : a0.toInt = A0) (a1 : Int32) (A1 : Int) (ha1 : a1.toInt = A1) (a2 : Int32) (A2 : Int) (ha2 : a2.toInt = A2) (a3 : Int32) (A3 : Int) (ha3 : a3.toInt = A3) (a4 : Int32) (A4 : Int) (ha4 : a4.toInt = A4) (hl0 : 0 ≤ A0) (hm0 : A0 ≤ 5) (hl1 : 0 ≤ A1) (hm1 : A1 ≤ 5) (hl2 : 0 ≤ A2) (hm2 : A2 ≤ 6) (sz : Nat) : MetI l yX10_isRest cX10_isRest 9 (some .boolean) 6 [.ref (A 0), .int a0, .int a1, .int a2, .int a3, .int a4] D (tyl C) (mw C A) X0 u sz (fun r u' => IM u' ∧ Un [(34, 34)] [(12, 12)] [] u u' ∧ (0 ≤ r.toInt ∧ r.toInt ≤ 1)) := by
  refine mI (by decide) (Nat.le_of_ble_eq_true rfl) ?_
  intro p e s m below meth c ls ar Q hx hb hml hown hts hK hH hX hl hret
  have hown : s.vm.findClass RX10 = some m.cls := hown
  have hl : lv_has ls 9 [(0, .ref (A 0)), (1, .int a0), (2, .int a1), (3, .int a2), (4, .int a3), (5, .int a4)] := hl
  refine lv_aload_n hx hb dX10_isRest_0 rfl (lv_at hl 0 rfl) ?_
  refine lv_iconst (v := 0) hx hb dX10_isRest_1 (by decide) ?_
  refine lv_iload_n hx hb dX10_isRest_2 rfl (lv_at hl 1 rfl) ?_
  refine lv_iload_n hx hb dX10_isRest_3 rfl (lv_at hl 2 rfl) ?_
  refine lv_iload_n hx hb dX10_isRest_4 rfl (lv_at hl 3 rfl) ?_
  refine lv_iload hx hb dX10_isRest_5 (lv_at hl 4 rfl) ?_
  refine lv_iload hx hb dX10_isRest_7 (lv_at hl 5 rfl) ?_
  refine cvI (n := 6) (As := [.int 0, .int a0, .int a1, .int a2, .int a3, .int a4]) (rest := []) ⟨hx, hb, hml, hown, hts⟩ uc_in (kX10_racer_0 l D C A u hI (0) 0 (by decide) a0 A0 ha0 a1 A1 ha1 a2 A2 ha2 a3 A3 ha3 a4 A4 ha4 (by omega) (by omega) (by omega) (by omega) (by omega) (by omega) _) q_m1772 q_n1774 q_p103 q_i11 q_c1775 hvX10_racer ⟨(Nat.le_of_ble_eq_true rfl), (Nat.le_of_ble_eq_true rfl)⟩ ⟨(Nat.le_of_ble_eq_true rfl), (Nat.le_of_ble_eq_true rfl)⟩ hK hH (fun q h => Or.inr h) Bl0 (fun _ _ _ => trivial) 10 0 rfl (mwc0 C A u) rfl hl.1 rfl (Nat.le_of_ble_eq_true rfl) dX10_isRest_9 (fun r2 u1 H locs p3 hH => ?_)
  obtain ⟨hI, hUu1, p3⟩ := p3
  refine lv_istore (lv' := [(6, .int r2), (0, .ref (A 0)), (1, .int a0), (2, .int a1), (3, .int a2), (4, .int a3), (5, .int a4)]) hx hb dX10_isRest_12 hl (by decide) rfl (fun ls hl => ?_)
  refine lv_aload_n hx hb dX10_isRest_14 rfl (lv_at hl 1 rfl) ?_
  refine lv_iconst (v := 1) hx hb dX10_isRest_15 (by decide) ?_
  refine lv_iload_n hx hb dX10_isRest_16 rfl (lv_at hl 2 rfl) ?_
  refine lv_iload_n hx hb dX10_isRest_17 rfl (lv_at hl 3 rfl) ?_
  refine lv_iload_n hx hb dX10_isRest_18 rfl (lv_at hl 4 rfl) ?_
  refine lv_iload hx hb dX10_isRest_19 (lv_at hl 5 rfl) ?_
  refine lv_iload hx hb dX10_isRest_21 (lv_at hl 6 rfl) ?_
  refine cvI (n := 6) (As := [.int 1, .int a0, .int a1, .int a2, .int a3, .int a4]) (rest := []) ⟨hx, hb, hml, hown, hts⟩ uc_in (kX10_racer_0 l D C A u1 hI (1) 1 (by decide) a0 A0 ha0 a1 A1 ha1 a2 A2 ha2 a3 A3 ha3 a4 A4 ha4 (by omega) (by omega) (by omega) (by omega) (by omega) (by omega) _) q_m1772 q_n1774 q_p103 q_i11 q_c1775 hvX10_racer ⟨(Nat.le_of_ble_eq_true rfl), (Nat.le_of_ble_eq_true rfl)⟩ ⟨(Nat.le_of_ble_eq_true rfl), (Nat.le_of_ble_eq_true rfl)⟩ hK hH (fun q h => Or.inr h) Bl0 (fun _ _ _ => trivial) 10 0 rfl (mwc0 C A u1) rfl hl.1 rfl (Nat.le_of_ble_eq_true rfl) dX10_isRest_23 (fun r5 u4 H locs p6 hH => ?_)
  obtain ⟨hI, hUu4, p6⟩ := p6
  refine lv_istore (lv' := [(7, .int r5), (6, .int r2), (0, .ref (A 0)), (1, .int a0), (2, .int a1), (3, .int a2), (4, .int a3), (5, .int a4)]) hx hb dX10_isRest_26 hl (by decide) rfl (fun ls hl => ?_)
  refine lv_iconst (v := 0) hx hb dX10_isRest_28 (by decide) ?_
  refine lv_istore (lv' := [(8, .int 0), (7, .int r5), (6, .int r2), (0, .ref (A 0)), (1, .int a0), (2, .int a1), (3, .int a2), (4, .int a3), (5, .int a4)]) hx hb dX10_isRest_29 hl (by decide) rfl (fun ls hl => ?_)
  have lp31_80 : ∀ (n31 : Nat) (ls : Array Slot) (y79d : Int32) (u80 : St) (H : Heap) (locs : List Loc), 0 ≤ y79d.toInt → y79d.toInt ≤ 6 → 6 - y79d.toInt < (n31 : Int) → Un [(34, 34)] [(12, 12)] [] u4 u80 → IM u80 → Hd D (mw C A) (va_A (mw C A u) s.heap.size) s.heap u80 H locs → lv_has ls 9 [(8, .int y79d), (7, .int r5), (6, .int r2), (0, .ref (A 0)), (1, .int a0), (2, .int a1), (3, .int a2), (4, .int a3), (5, .int a4)] → W p l e (rmL 6 0 0) s m ar below meth c H locs 0 0 Q (F0 m 31 ls []) := by
    intro n31
    induction n31 with
    | zero => intro ls y79d u80 H locs ly79d my79d hmun31 hUu80 hI hH hl; exfalso; omega
    | succ n31 ih31_80 =>
      intro ls y79d u80 H locs ly79d my79d hmun31 hUu80 hI hH hl
      refine lv_iload hx hb dX10_isRest_31 (lv_at hl 0 rfl) ?_
      refine lv_iconst (v := 5) hx hb dX10_isRest_33 (by decide) ?_
      refine lv_icmp_gt (tgt := 79) hx hb dX10_isRest_34 (by decide) (fun c82 => ?_) (fun c82 => ?_)
      · have c82 := cLT (x := 5) (y := y79d) (X := 5) (Y := y79d.toInt) (by decide) rfl c82
        refine lv_iconst (v := 1) hx hb dX10_isRest_79 (by decide) ?_
        exact hret _ _ _ _ (1 : Int32) _ dX10_isRest_80 rfl ⟨hI, (Un.tr (Un.tr (Un.tr Un.rf hUu1 rfl rfl rfl) hUu4 rfl rfl rfl) hUu80 rfl rfl rfl), ⟨by decide, by decide⟩⟩ hH
      · have c82 := cNLT (x := 5) (y := y79d) (X := 5) (Y := y79d.toInt) (by decide) rfl c82
        refine lv_aload_n hx hb dX10_isRest_37 rfl (lv_at hl 3 rfl) ?_
        refine lv_iconst (v := 0) hx hb dX10_isRest_38 (by decide) ?_
        refine lv_iload_n hx hb dX10_isRest_39 rfl (lv_at hl 4 rfl) ?_
        refine lv_iload_n hx hb dX10_isRest_40 rfl (lv_at hl 5 rfl) ?_
        refine lv_iload_n hx hb dX10_isRest_41 rfl (lv_at hl 6 rfl) ?_
        refine lv_iload hx hb dX10_isRest_42 (lv_at hl 0 rfl) ?_
        refine lv_iload hx hb dX10_isRest_44 (lv_at hl 8 rfl) ?_
        refine cvI (n := 6) (As := [.int 0, .int a0, .int a1, .int a2, .int y79d, .int a4]) (rest := []) ⟨hx, hb, hml, hown, hts⟩ uc_in (kX10_racer_0 l D C A u80 hI (0) 0 (by decide) a0 A0 ha0 a1 A1 ha1 a2 A2 ha2 y79d y79d.toInt rfl a4 A4 ha4 (by omega) (by omega) (by omega) (by omega) (by omega) (by omega) _) q_m1772 q_n1774 q_p103 q_i11 q_c1775 hvX10_racer ⟨(Nat.le_of_ble_eq_true rfl), (Nat.le_of_ble_eq_true rfl)⟩ ⟨(Nat.le_of_ble_eq_true rfl), (Nat.le_of_ble_eq_true rfl)⟩ hK hH (fun q h => Or.inr h) Bl0 (fun _ _ _ => trivial) 10 0 rfl (mwc0 C A u80) rfl hl.1 rfl (Nat.le_of_ble_eq_true rfl) dX10_isRest_46 (fun r84 u83 H locs p85 hH => ?_)
        obtain ⟨hI, hUu83, p85⟩ := p85
        refine lv_iload hx hb dX10_isRest_49 (lv_at hl 2 rfl) ?_
        refine lv_icmp_gt (tgt := 71) hx hb dX10_isRest_51 (by decide) (fun c86 => ?_) (fun c86 => ?_)
        · have c86 := cLT (x := r2) (y := r84) (X := r2.toInt) (Y := r84.toInt) rfl rfl c86
          refine lv_iconst (v := 0) hx hb dX10_isRest_71 (by decide) ?_
          exact hret _ _ _ _ (0 : Int32) _ dX10_isRest_72 rfl ⟨hI, (Un.tr (Un.tr (Un.tr (Un.tr Un.rf hUu1 rfl rfl rfl) hUu4 rfl rfl rfl) hUu80 rfl rfl rfl) hUu83 rfl rfl rfl), ⟨by decide, by decide⟩⟩ hH
        · have c86 := cNLT (x := r2) (y := r84) (X := r2.toInt) (Y := r84.toInt) rfl rfl c86
          refine lv_aload_n hx hb dX10_isRest_54 rfl (lv_at hl 3 rfl) ?_
          refine lv_iconst (v := 1) hx hb dX10_isRest_55 (by decide) ?_
          refine lv_iload_n hx hb dX10_isRest_56 rfl (lv_at hl 4 rfl) ?_
          refine lv_iload_n hx hb dX10_isRest_57 rfl (lv_at hl 5 rfl) ?_
          refine lv_iload_n hx hb dX10_isRest_58 rfl (lv_at hl 6 rfl) ?_
          refine lv_iload hx hb dX10_isRest_59 (lv_at hl 7 rfl) ?_
          refine lv_iload hx hb dX10_isRest_61 (lv_at hl 0 rfl) ?_
          refine cvI (n := 6) (As := [.int 1, .int a0, .int a1, .int a2, .int a3, .int y79d]) (rest := []) ⟨hx, hb, hml, hown, hts⟩ uc_in (kX10_racer_0 l D C A u83 hI (1) 1 (by decide) a0 A0 ha0 a1 A1 ha1 a2 A2 ha2 a3 A3 ha3 y79d y79d.toInt rfl (by omega) (by omega) (by omega) (by omega) (by omega) (by omega) _) q_m1772 q_n1774 q_p103 q_i11 q_c1775 hvX10_racer ⟨(Nat.le_of_ble_eq_true rfl), (Nat.le_of_ble_eq_true rfl)⟩ ⟨(Nat.le_of_ble_eq_true rfl), (Nat.le_of_ble_eq_true rfl)⟩ hK hH (fun q h => Or.inr h) Bl0 (fun _ _ _ => trivial) 10 0 rfl (mwc0 C A u83) rfl hl.1 rfl (Nat.le_of_ble_eq_true rfl) dX10_isRest_63 (fun r88 u87 H locs p89 hH => ?_)
          obtain ⟨hI, hUu87, p89⟩ := p89
          refine lv_iload hx hb dX10_isRest_66 (lv_at hl 1 rfl) ?_
          refine lv_icmp_le (tgt := 73) hx hb dX10_isRest_68 (by decide) (fun c90 => ?_) (fun c90 => ?_)
          · have c90 := cLE (x := r88) (y := r5) (X := r88.toInt) (Y := r5.toInt) rfl rfl c90
            obtain ⟨z91, ez91⟩ : ∃ z, z = y79d + Int32.ofInt 1 := ⟨_, rfl⟩
            have hz91 : z91.toInt = y79d.toInt + 1 := by rw [ez91]; exact tt_add rfl (by decide) (by omega) (by omega)
            refine lv_iinc (v := z91) (lv' := [(8, .int z91), (7, .int r5), (6, .int r2), (0, .ref (A 0)), (1, .int a0), (2, .int a1), (3, .int a2), (4, .int a3), (5, .int a4)]) hx hb dX10_isRest_73 hl (k := 0) rfl ez91.symm (by decide) rfl (fun ls hl => ?_)
            refine lv_goto (tgt := 31) hx hb dX10_isRest_76 (by decide) ?_
            exact ih31_80 ls z91 u87 _ _ (by have q9 := (show z91.toInt = (y79d.toInt + 1) from hz91); omega) (by have q9 := (show z91.toInt = (y79d.toInt + 1) from hz91); omega) (by have q9 := (show z91.toInt = (y79d.toInt + 1) from hz91); omega) (Un.tr (Un.tr hUu80 hUu83 rfl rfl rfl) hUu87 rfl rfl rfl) hI hH hl
          · have c90 := cNLE (x := r88) (y := r5) (X := r88.toInt) (Y := r5.toInt) rfl rfl c90
            refine lv_iconst (v := 0) hx hb dX10_isRest_71 (by decide) ?_
            exact hret _ _ _ _ (0 : Int32) _ dX10_isRest_72 rfl ⟨hI, (Un.tr (Un.tr (Un.tr (Un.tr (Un.tr Un.rf hUu1 rfl rfl rfl) hUu4 rfl rfl rfl) hUu80 rfl rfl rfl) hUu83 rfl rfl rfl) hUu87 rfl rfl rfl), ⟨by decide, by decide⟩⟩ hH
  exact lp31_80 7 ls 0 u4 _ _ (by decide) (by decide) (by have q9 : (0 : Int32).toInt = 0 := (by decide); omega) Un.rf hI hH hl
set_option maxHeartbeats 4000000 in
set_option maxRecDepth 100000 in
theorem kX10_laysRests_0 (l : Launch) (D : va_G) (C : Nat → ClassId) (A : Nat → Nat) (u : St) (hI : IM u) (a0 : Int32) (A0 : Int) (ha0 : a0.toInt = A0) (a1 : Int32) (A1 : Int) (ha1 : a1.toInt = A1) (a2 : Int32) (A2 : Int) (ha2 : a2.toInt = A2) (hl0 : 0 ≤ A0) (hm0 : A0 ≤ 5) (hl1 : 0 ≤ A1) (hm1 : A1 ≤ 5) (hl2 : 0 ≤ A2) (hm2 : A2 ≤ 6) (sz : Nat) : MetV l yX10_laysRests cX10_laysRests 6 7 [.ref (A 0), .int a0, .int a1, .int a2] D (tyl C) (mw C A) X0 u sz (fun u' => IM u' ∧ Un [(34, 34), (35, 35), (36, 36), (37, 37)] [(12, 12)] [] u u' ∧ True) := by
  refine mV (by decide) (Nat.le_of_ble_eq_true rfl) ?_
  intro p e s m below meth c ls ar Q hx hb hml hown hts hK hH hX hl hret
  have hown : s.vm.findClass RX10 = some m.cls := hown
  have hl : lv_has ls 6 [(0, .ref (A 0)), (1, .int a0), (2, .int a1), (3, .int a2)] := hl
  refine lv_aload_n hx hb dX10_laysRests_0 rfl (lv_at hl 0 rfl) ?_
  refine lv_iconst (v := 0) hx hb dX10_laysRests_1 (by decide) ?_
  refine r_put (j := 35) (ci := 10) (C := RX10) (T := TX10) (N := 42) hx hb hts (fun w h => uc_in w (inX10 w h)) tyX10 tyX10_ok nmX10 hown hK hH 0 (mwc0 C A u) rfl 35 (by decide) (hts _ (uc_in _ q_f1223)) (fun _ h9 => h9) rfl (by decide +kernel) (Nat.le_of_ble_eq_true rfl) (mws35 C A u _) dX10_laysRests_2 (fun u1 eu1 H locs hH => ?_)
  have hI := hI.pi0 eu1 rfl
  refine lv_aload_n hx hb dX10_laysRests_5 rfl (lv_at hl 0 rfl) ?_
  refine lv_iconst (v := (-1)) hx hb dX10_laysRests_6 (by decide) ?_
  refine r_put (j := 36) (ci := 10) (C := RX10) (T := TX10) (N := 42) hx hb hts (fun w h => uc_in w (inX10 w h)) tyX10 tyX10_ok nmX10 hown hK hH 0 (mwc0 C A u1) rfl 36 (by decide) (hts _ (uc_in _ q_f1224)) (fun _ h9 => h9) rfl (by decide +kernel) (Nat.le_of_ble_eq_true rfl) (mws36 C A u1 _) dX10_laysRests_7 (fun u2 eu2 H locs hH => ?_)
  have hI := hI.pi0 eu2 rfl
  refine lv_aload_n hx hb dX10_laysRests_10 rfl (lv_at hl 0 rfl) ?_
  refine lv_sipush (v := (-1000)) hx hb dX10_laysRests_11 (by decide) ?_
  refine r_put (j := 37) (ci := 10) (C := RX10) (T := TX10) (N := 42) hx hb hts (fun w h => uc_in w (inX10 w h)) tyX10 tyX10_ok nmX10 hown hK hH 0 (mwc0 C A u2) rfl 37 (by decide) (hts _ (uc_in _ q_f1225)) (fun _ h9 => h9) rfl (by decide +kernel) (Nat.le_of_ble_eq_true rfl) (mws37 C A u2 _) dX10_laysRests_14 (fun u3 eu3 H locs hH => ?_)
  have hI := hI.pi0 eu3 rfl
  refine lv_iconst (v := 0) hx hb dX10_laysRests_17 (by decide) ?_
  refine lv_istore (lv' := [(4, .int 0), (0, .ref (A 0)), (1, .int a0), (2, .int a1), (3, .int a2)]) hx hb dX10_laysRests_18 hl (by decide) rfl (fun ls hl => ?_)
  have lp20_2251 : ∀ (n20 : Nat) (ls : Array Slot) (y2250d : Int32) (u2251 : St) (H : Heap) (locs : List Loc), 0 ≤ y2250d.toInt → y2250d.toInt ≤ 6 → 6 - y2250d.toInt < (n20 : Int) → Un [(34, 34), (35, 35), (36, 36), (37, 37)] [(12, 12)] [] u3 u2251 → IM u2251 → Hd D (mw C A) (va_A (mw C A u) s.heap.size) s.heap u2251 H locs → lv_has ls 6 [(4, .int y2250d), (0, .ref (A 0)), (1, .int a0), (2, .int a1), (3, .int a2)] → W p l e (rmL 7 0 0) s m ar below meth c H locs 0 0 Q (F0 m 20 ls []) := by
    intro n20
    induction n20 with
    | zero => intro ls y2250d u2251 H locs ly2250d my2250d hmun20 hUu2251 hI hH hl; exfalso; omega
    | succ n20 ih20_2251 =>
      intro ls y2250d u2251 H locs ly2250d my2250d hmun20 hUu2251 hI hH hl
      refine lv_iload hx hb dX10_laysRests_20 (lv_at hl 0 rfl) ?_
      refine lv_iconst (v := 5) hx hb dX10_laysRests_22 (by decide) ?_
      refine lv_icmp_gt (tgt := 132) hx hb dX10_laysRests_23 (by decide) (fun c2253 => ?_) (fun c2253 => ?_)
      · have c2253 := cLT (x := 5) (y := y2250d) (X := 5) (Y := y2250d.toInt) (by decide) rfl c2253
        exact hret _ _ _ _ _ dX10_laysRests_132 ⟨hI, (Un.tr (Un.si (Un.si (Un.si Un.rf rfl eu1) rfl eu2) rfl eu3) hUu2251 rfl rfl rfl), trivial⟩ hH
      · have c2253 := cNLT (x := 5) (y := y2250d) (X := 5) (Y := y2250d.toInt) (by decide) rfl c2253
        refine lv_iconst (v := 0) hx hb dX10_laysRests_26 (by decide) ?_
        refine lv_istore (lv' := [(5, .int 0), (4, .int y2250d), (0, .ref (A 0)), (1, .int a0), (2, .int a1), (3, .int a2)]) hx hb dX10_laysRests_27 hl (by decide) rfl (fun ls hl => ?_)
        have lp29_2388 : ∀ (n29 : Nat) (ls : Array Slot) (y2387d : Int32) (u2388 : St) (H : Heap) (locs : List Loc), 0 ≤ y2387d.toInt → y2387d.toInt ≤ 6 → 6 - y2387d.toInt < (n29 : Int) → Un [(34, 34), (35, 35), (36, 36), (37, 37)] [(12, 12)] [] u2251 u2388 → IM u2388 → Hd D (mw C A) (va_A (mw C A u) s.heap.size) s.heap u2388 H locs → lv_has ls 6 [(5, .int y2387d), (4, .int y2250d), (0, .ref (A 0)), (1, .int a0), (2, .int a1), (3, .int a2)] → W p l e (rmL 7 0 0) s m ar below meth c H locs 0 0 Q (F0 m 29 ls []) := by
          intro n29
          induction n29 with
          | zero => intro ls y2387d u2388 H locs ly2387d my2387d hmun29 hUu2388 hI hH hl; exfalso; omega
          | succ n29 ih29_2388 =>
            intro ls y2387d u2388 H locs ly2387d my2387d hmun29 hUu2388 hI hH hl
            refine lv_iload hx hb dX10_laysRests_29 (lv_at hl 0 rfl) ?_
            refine lv_iconst (v := 5) hx hb dX10_laysRests_31 (by decide) ?_
            refine lv_icmp_gt (tgt := 126) hx hb dX10_laysRests_32 (by decide) (fun c2390 => ?_) (fun c2390 => ?_)
            · have c2390 := cLT (x := 5) (y := y2387d) (X := 5) (Y := y2387d.toInt) (by decide) rfl c2390
              obtain ⟨z2391, ez2391⟩ : ∃ z, z = y2250d + Int32.ofInt 1 := ⟨_, rfl⟩
              have hz2391 : z2391.toInt = y2250d.toInt + 1 := by rw [ez2391]; exact tt_add rfl (by decide) (by omega) (by omega)
              refine lv_iinc (v := z2391) (lv' := [(4, .int z2391), (5, .int y2387d), (0, .ref (A 0)), (1, .int a0), (2, .int a1), (3, .int a2)]) hx hb dX10_laysRests_126 hl (k := 1) rfl ez2391.symm (by decide) rfl (fun ls hl => ?_)
              refine lv_goto (tgt := 20) hx hb dX10_laysRests_129 (by decide) ?_
              exact ih20_2251 ls z2391 u2388 _ _ (by have q9 := (show z2391.toInt = (y2250d.toInt + 1) from hz2391); omega) (by have q9 := (show z2391.toInt = (y2250d.toInt + 1) from hz2391); omega) (by have q9 := (show z2391.toInt = (y2250d.toInt + 1) from hz2391); omega) (Un.tr hUu2251 hUu2388 rfl rfl rfl) hI hH (lv_sub hl [0, 2, 3, 4, 5] rfl)
            · have c2390 := cNLT (x := 5) (y := y2387d) (X := 5) (Y := y2387d.toInt) (by decide) rfl c2390
              refine lv_aload_n hx hb dX10_laysRests_35 rfl (lv_at hl 2 rfl) ?_
              refine lv_iload_n hx hb dX10_laysRests_36 rfl (lv_at hl 3 rfl) ?_
              refine lv_iload_n hx hb dX10_laysRests_37 rfl (lv_at hl 4 rfl) ?_
              refine lv_iload_n hx hb dX10_laysRests_38 rfl (lv_at hl 5 rfl) ?_
              refine lv_iload hx hb dX10_laysRests_39 (lv_at hl 1 rfl) ?_
              refine lv_iload hx hb dX10_laysRests_41 (lv_at hl 0 rfl) ?_
              refine cvI (n := 5) (As := [.int a0, .int a1, .int a2, .int y2250d, .int y2387d]) (rest := []) ⟨hx, hb, hml, hown, hts⟩ uc_in (kX10_isRest_0 l D C A u2388 hI a0 A0 ha0 a1 A1 ha1 a2 A2 ha2 y2250d y2250d.toInt rfl y2387d y2387d.toInt rfl (by omega) (by omega) (by omega) (by omega) (by omega) (by omega) _) q_m1768 q_n1770 q_p102 q_i11 q_c1771 hvX10_isRest ⟨(Nat.le_of_ble_eq_true rfl), (Nat.le_of_ble_eq_true rfl)⟩ ⟨(Nat.le_of_ble_eq_true rfl), (Nat.le_of_ble_eq_true rfl)⟩ hK hH (fun q h => Or.inr h) Bl0 (fun _ _ _ => trivial) 10 0 rfl (mwc0 C A u2388) rfl hl.1 rfl (Nat.le_of_ble_eq_true rfl) dX10_laysRests_43 (fun r2393 u2392 H locs p2394 hH => ?_)
              obtain ⟨hI, hUu2392, p2394⟩ := p2394
              have p2394 : 0 ≤ r2393.toInt ∧ r2393.toInt ≤ 1 := p2394
              have j120_2412 : ∀ (ls : Array Slot) (u2412 : St) (H : Heap) (locs : List Loc), Un [(34, 34), (35, 35), (36, 36), (37, 37)] [(12, 12)] [] u2392 u2412 → IM u2412 → Hd D (mw C A) (va_A (mw C A u) s.heap.size) s.heap u2412 H locs → lv_has ls 6 [(5, .int y2387d), (4, .int y2250d), (0, .ref (A 0)), (1, .int a0), (2, .int a1), (3, .int a2)] → W p l e (rmL 7 0 0) s m ar below meth c H locs 0 0 Q (F0 m 120 ls []) := by
                intro ls u2412 H locs hUu2412 hI hH hl
                obtain ⟨z2414, ez2414⟩ : ∃ z, z = y2387d + Int32.ofInt 1 := ⟨_, rfl⟩
                have hz2414 : z2414.toInt = y2387d.toInt + 1 := by rw [ez2414]; exact tt_add rfl (by decide) (by omega) (by omega)
                refine lv_iinc (v := z2414) (lv' := [(5, .int z2414), (4, .int y2250d), (0, .ref (A 0)), (1, .int a0), (2, .int a1), (3, .int a2)]) hx hb dX10_laysRests_120 hl (k := 0) rfl ez2414.symm (by decide) rfl (fun ls hl => ?_)
                refine lv_goto (tgt := 29) hx hb dX10_laysRests_123 (by decide) ?_
                exact ih29_2388 ls z2414 u2412 _ _ (by have q9 := (show z2414.toInt = (y2387d.toInt + 1) from hz2414); omega) (by have q9 := (show z2414.toInt = (y2387d.toInt + 1) from hz2414); omega) (by have q9 := (show z2414.toInt = (y2387d.toInt + 1) from hz2414); omega) (Un.tr (Un.tr hUu2388 hUu2392 rfl rfl rfl) hUu2412 rfl rfl rfl) hI hH hl
              refine lv_if_ne (tgt := 52) hx hb dX10_laysRests_46 (by decide) (fun c2395 => ?_) (fun c2395 => ?_)
              · have c2395 := cNE (x := r2393) (y := 0) (X := r2393.toInt) (Y := 0) rfl (by decide) c2395
                refine lv_aload_n hx hb dX10_laysRests_52 rfl (lv_at hl 2 rfl) ?_
                refine va_get (ci := 10) (v := .int (gi u2392 35)) (C := RX10) (T := TX10) (N := 42) hx hb hts (fun w h => uc_in w (inX10 w h)) hown hK hH.1 0 (mwc0 C A u2392) rfl 35 (by decide) (hts _ (uc_in _ q_f1223)) (fun _ h9 => h9) rfl dX10_laysRests_53 ?_
                have j71_2429 : ∀ (ls : Array Slot) (u2429 : St) (H : Heap) (locs : List Loc), Un [(36, 36)] [] [] u2392 u2429 → IM u2429 → Hd D (mw C A) (va_A (mw C A u) s.heap.size) s.heap u2429 H locs → lv_has ls 6 [(5, .int y2387d), (4, .int y2250d), (0, .ref (A 0)), (1, .int a0), (2, .int a1), (3, .int a2)] → W p l e (rmL 7 0 0) s m ar below meth c H locs 0 0 Q (F0 m 71 ls []) := by
                  intro ls u2429 H locs hUu2429 hI hH hl
                  refine lv_aload_n hx hb dX10_laysRests_71 rfl (lv_at hl 2 rfl) ?_
                  refine lv_dup hx hb dX10_laysRests_72 rfl ?_
                  refine va_get (ci := 10) (v := .int (gi u2429 35)) (C := RX10) (T := TX10) (N := 42) hx hb hts (fun w h => uc_in w (inX10 w h)) hown hK hH.1 0 (mwc0 C A u2429) rfl 35 (by decide) (hts _ (uc_in _ q_f1223)) (fun _ h9 => h9) rfl dX10_laysRests_73 ?_
                  refine pv_i (v := (gi u2392 35)) ((hUu2429.1 35 rfl).trans rfl) ?_
                  refine lv_iconst (v := 1) hx hb dX10_laysRests_76 (by decide) ?_
                  refine lv_iadd hx hb dX10_laysRests_77 ?_
                  refine p_any (fun z2431 => ?_)
                  refine r_put (j := 35) (ci := 10) (C := RX10) (T := TX10) (N := 42) hx hb hts (fun w h => uc_in w (inX10 w h)) tyX10 tyX10_ok nmX10 hown hK hH 0 (mwc0 C A u2429) rfl 35 (by decide) (hts _ (uc_in _ q_f1223)) (fun _ h9 => h9) rfl (by decide +kernel) (Nat.le_of_ble_eq_true rfl) (mws35 C A u2429 _) dX10_laysRests_78 (fun u2432 eu2432 H locs hH => ?_)
                  have hI := hI.pi0 eu2432 rfl
                  refine lv_aload_n hx hb dX10_laysRests_81 rfl (lv_at hl 2 rfl) ?_
                  refine lv_iconst (v := 0) hx hb dX10_laysRests_82 (by decide) ?_
                  refine lv_iload_n hx hb dX10_laysRests_83 rfl (lv_at hl 3 rfl) ?_
                  refine lv_iload_n hx hb dX10_laysRests_84 rfl (lv_at hl 4 rfl) ?_
                  refine lv_iload_n hx hb dX10_laysRests_85 rfl (lv_at hl 5 rfl) ?_
                  refine lv_iload hx hb dX10_laysRests_86 (lv_at hl 1 rfl) ?_
                  refine lv_iload hx hb dX10_laysRests_88 (lv_at hl 0 rfl) ?_
                  refine cvI (n := 6) (As := [.int 0, .int a0, .int a1, .int a2, .int y2250d, .int y2387d]) (rest := []) ⟨hx, hb, hml, hown, hts⟩ uc_in (kX10_racer_0 l D C A u2432 hI (0) 0 (by decide) a0 A0 ha0 a1 A1 ha1 a2 A2 ha2 y2250d y2250d.toInt rfl y2387d y2387d.toInt rfl (by omega) (by omega) (by omega) (by omega) (by omega) (by omega) _) q_m1772 q_n1774 q_p103 q_i11 q_c1775 hvX10_racer ⟨(Nat.le_of_ble_eq_true rfl), (Nat.le_of_ble_eq_true rfl)⟩ ⟨(Nat.le_of_ble_eq_true rfl), (Nat.le_of_ble_eq_true rfl)⟩ hK hH (fun q h => Or.inr h) Bl0 (fun _ _ _ => trivial) 10 0 rfl (mwc0 C A u2432) rfl hl.1 rfl (Nat.le_of_ble_eq_true rfl) dX10_laysRests_90 (fun r2434 u2433 H locs p2435 hH => ?_)
                  obtain ⟨hI, hUu2433, p2435⟩ := p2435
                  refine lv_pop hx hb dX10_laysRests_93 rfl ?_
                  refine lv_aload_n hx hb dX10_laysRests_94 rfl (lv_at hl 2 rfl) ?_
                  refine lv_aload_n hx hb dX10_laysRests_95 rfl (lv_at hl 2 rfl) ?_
                  refine va_get (ci := 10) (v := .int (gi u2433 34)) (C := RX10) (T := TX10) (N := 42) hx hb hts (fun w h => uc_in w (inX10 w h)) hown hK hH.1 0 (mwc0 C A u2433) rfl 34 (by decide) (hts _ (uc_in _ q_f1222)) (fun _ h9 => h9) rfl dX10_laysRests_96 ?_
                  refine lv_aload_n hx hb dX10_laysRests_99 rfl (lv_at hl 2 rfl) ?_
                  refine va_get (ci := 10) (v := .int (gi u2433 37)) (C := RX10) (T := TX10) (N := 42) hx hb hts (fun w h => uc_in w (inX10 w h)) hown hK hH.1 0 (mwc0 C A u2433) rfl 37 (by decide) (hts _ (uc_in _ q_f1225)) (fun _ h9 => h9) rfl dX10_laysRests_100 ?_
                  have j117_2439 : ∀ (ls : Array Slot) (y2437d : Int32), lv_has ls 6 [(5, .int y2387d), (4, .int y2250d), (0, .ref (A 0)), (1, .int a0), (2, .int a1), (3, .int a2)] → W p l e (rmL 7 0 0) s m ar below meth c H locs 0 0 Q (F0 m 117 ls [.int y2437d, .ref (A 0)]) := by
                    intro ls y2437d hl
                    refine r_put (j := 37) (ci := 10) (C := RX10) (T := TX10) (N := 42) hx hb hts (fun w h => uc_in w (inX10 w h)) tyX10 tyX10_ok nmX10 hown hK hH 0 (mwc0 C A u2433) rfl 37 (by decide) (hts _ (uc_in _ q_f1225)) (fun _ h9 => h9) rfl (by decide +kernel) (Nat.le_of_ble_eq_true rfl) (mws37 C A u2433 _) dX10_laysRests_117 (fun u2441 eu2441 H locs hH => ?_)
                    have hI := hI.pi0 eu2441 rfl
                    exact j120_2412 ls u2441 _ _ (Un.si (Un.tr (Un.si (Un.tr Un.rf hUu2429 rfl rfl rfl) rfl eu2432) hUu2433 rfl rfl rfl) rfl eu2441) hI hH hl
                  refine lv_icmp_le (tgt := 113) hx hb dX10_laysRests_103 (by decide) (fun c2436 => ?_) (fun c2436 => ?_)
                  · have c2436 := cLE (x := (gi u2433 34)) (y := (gi u2433 37)) (X := ((gi u2433 34)).toInt) (Y := ((gi u2433 37)).toInt) rfl rfl c2436
                    refine lv_aload_n hx hb dX10_laysRests_113 rfl (lv_at hl 2 rfl) ?_
                    refine va_get (ci := 10) (v := .int (gi u2433 37)) (C := RX10) (T := TX10) (N := 42) hx hb hts (fun w h => uc_in w (inX10 w h)) hown hK hH.1 0 (mwc0 C A u2433) rfl 37 (by decide) (hts _ (uc_in _ q_f1225)) (fun _ h9 => h9) rfl dX10_laysRests_114 ?_
                    exact j117_2439 ls (gi u2433 37) hl
                  · have c2436 := cNLE (x := (gi u2433 34)) (y := (gi u2433 37)) (X := ((gi u2433 34)).toInt) (Y := ((gi u2433 37)).toInt) rfl rfl c2436
                    refine lv_aload_n hx hb dX10_laysRests_106 rfl (lv_at hl 2 rfl) ?_
                    refine va_get (ci := 10) (v := .int (gi u2433 34)) (C := RX10) (T := TX10) (N := 42) hx hb hts (fun w h => uc_in w (inX10 w h)) hown hK hH.1 0 (mwc0 C A u2433) rfl 34 (by decide) (hts _ (uc_in _ q_f1222)) (fun _ h9 => h9) rfl dX10_laysRests_107 ?_
                    refine lv_goto (tgt := 117) hx hb dX10_laysRests_110 (by decide) ?_
                    exact j117_2439 ls (gi u2433 34) hl
                refine lv_if_ne (tgt := 71) hx hb dX10_laysRests_56 (by decide) (fun c2415 => ?_) (fun c2415 => ?_)
                · exact j71_2429 ls u2392 _ _ Un.rf hI hH hl
                · have c2415 := cEQ (x := (gi u2392 35)) (y := 0) (X := ((gi u2392 35)).toInt) (Y := 0) rfl (by decide) c2415
                  refine lv_aload_n hx hb dX10_laysRests_59 rfl (lv_at hl 2 rfl) ?_
                  refine lv_bipush (v := 10) hx hb dX10_laysRests_60 (by decide) ?_
                  refine lv_iload hx hb dX10_laysRests_62 (lv_at hl 1 rfl) ?_
                  refine lv_imul hx hb dX10_laysRests_64 ?_
                  refine p_nm (tt_mul (X := 10) (Y := y2250d.toInt) (by decide) rfl (by omega) (by omega)) (fun z2442 hz2442 => ?_)
                  refine lv_iload hx hb dX10_laysRests_65 (lv_at hl 0 rfl) ?_
                  refine lv_iadd hx hb dX10_laysRests_67 ?_
                  refine p_nm (tt_add (X := (10 * y2250d.toInt)) (Y := y2387d.toInt) hz2442 rfl (by omega) (by omega)) (fun z2443 hz2443 => ?_)
                  refine r_put (j := 36) (ci := 10) (C := RX10) (T := TX10) (N := 42) hx hb hts (fun w h => uc_in w (inX10 w h)) tyX10 tyX10_ok nmX10 hown hK hH 0 (mwc0 C A u2392) rfl 36 (by decide) (hts _ (uc_in _ q_f1224)) (fun _ h9 => h9) rfl (by decide +kernel) (Nat.le_of_ble_eq_true rfl) (mws36 C A u2392 _) dX10_laysRests_68 (fun u2444 eu2444 H locs hH => ?_)
                  have hI := hI.pi0 eu2444 rfl
                  exact j71_2429 ls u2444 _ _ (Un.si Un.rf rfl eu2444) hI hH hl
              · have c2395 := cEQ (x := r2393) (y := 0) (X := r2393.toInt) (Y := 0) rfl (by decide) c2395
                refine lv_goto (tgt := 120) hx hb dX10_laysRests_49 (by decide) ?_
                exact j120_2412 ls u2392 _ _ Un.rf hI hH hl
        exact lp29_2388 7 ls 0 u2251 _ _ (by decide) (by decide) (by have q9 : (0 : Int32).toInt = 0 := (by decide); omega) Un.rf hI hH hl
  exact lp20_2251 7 ls 0 u3 _ _ (by decide) (by decide) (by have q9 : (0 : Int32).toInt = 0 := (by decide); omega) Un.rf hI hH hl
set_option maxHeartbeats 4000000 in
set_option maxRecDepth 100000 in
theorem kX10_race_0 (l : Launch) (D : va_G) (C : Nat → ClassId) (A : Nat → Nat) (u : St) (hI : IM u) (a0 : Int32) (A0 : Int) (ha0 : a0.toInt = A0) (a1 : Int32) (A1 : Int) (ha1 : a1.toInt = A1) (a2 : Int32) (A2 : Int) (ha2 : a2.toInt = A2) (sz : Nat) : MetI l yX10_race cX10_race 4 (some .int) 8 [.ref (A 0), .int a0, .int a1, .int a2] D (tyl C) (mw C A) X0 u sz (fun r u' => IM u' ∧ Un [(0, 0), (24, 24), (25, 25), (34, 34), (35, 35), (36, 36), (37, 37)] [(12, 12), (13, 13)] [] u u' ∧ (True)) := by
  refine mI (by decide) (Nat.le_of_ble_eq_true rfl) ?_
  intro p e s m below meth c ls ar Q hx hb hml hown hts hK hH hX hl hret
  have hown : s.vm.findClass RX10 = some m.cls := hown
  have hl : lv_has ls 4 [(0, .ref (A 0)), (1, .int a0), (2, .int a1), (3, .int a2)] := hl
  refine lv_aload_n hx hb dX10_race_0 rfl (lv_at hl 0 rfl) ?_
  refine lv_iconst (v := 0) hx hb dX10_race_1 (by decide) ?_
  refine r_put (j := 0) (ci := 10) (C := RX10) (T := TX10) (N := 42) hx hb hts (fun w h => uc_in w (inX10 w h)) tyX10 tyX10_ok nmX10 hown hK hH 0 (mwc0 C A u) rfl 0 (by decide) (hts _ (uc_in _ q_f1188)) (fun _ h9 => h9) rfl (by decide +kernel) (Nat.le_of_ble_eq_true rfl) (mws0 C A u _) dX10_race_2 (fun u1 eu1 H locs hH => ?_)
  have hI := hI.pi0 eu1 rfl
  refine lv_aload_n hx hb dX10_race_5 rfl (lv_at hl 0 rfl) ?_
  refine lv_iload_n hx hb dX10_race_6 rfl (lv_at hl 1 rfl) ?_
  refine lv_iload_n hx hb dX10_race_7 rfl (lv_at hl 2 rfl) ?_
  refine lv_iload_n hx hb dX10_race_8 rfl (lv_at hl 3 rfl) ?_
  refine cvI (n := 3) (As := [.int a0, .int a1, .int a2]) (rest := []) ⟨hx, hb, hml, hown, hts⟩ uc_in (kX10_isRace_0 l D C A u1 hI a0 A0 ha0 a1 A1 ha1 a2 A2 ha2 _) q_m1760 q_n1762 q_p100 q_i11 q_c1763 hvX10_isRace ⟨(Nat.le_of_ble_eq_true rfl), (Nat.le_of_ble_eq_true rfl)⟩ ⟨(Nat.le_of_ble_eq_true rfl), (Nat.le_of_ble_eq_true rfl)⟩ hK hH (fun q h => Or.inr h) Bl0 (fun _ _ _ => trivial) 10 0 rfl (mwc0 C A u1) rfl hl.1 rfl (Nat.le_of_ble_eq_true rfl) dX10_race_9 (fun r3 u2 H locs p4 hH => ?_)
  obtain ⟨hI, hUu2, p4⟩ := p4
  rcases p4 with ⟨e9, f5, f6, f7, f8, f9, f10⟩ | e9
  · subst e9
    refine lv_if_ne (tgt := 18) hx hb dX10_race_12 (by decide) (fun c11 => ?_) (fun c11 => absurd c11 (by decide))
    refine lv_aload_n hx hb dX10_race_18 rfl (lv_at hl 0 rfl) ?_
    refine lv_iload_n hx hb dX10_race_19 rfl (lv_at hl 1 rfl) ?_
    refine lv_iload_n hx hb dX10_race_20 rfl (lv_at hl 2 rfl) ?_
    refine lv_iload_n hx hb dX10_race_21 rfl (lv_at hl 3 rfl) ?_
    refine cvU (n := 3) (As := [.int a0, .int a1, .int a2]) (rest := []) ⟨hx, hb, hml, hown, hts⟩ uc_in (kX10_laysRests_0 l D C A u2 hI a0 A0 ha0 a1 A1 ha1 a2 A2 ha2 (by omega) (by omega) (by omega) (by omega) (by omega) (by omega) _) q_m1764 q_n1766 q_p101 q_i11 q_c1767 hvX10_laysRests ⟨(Nat.le_of_ble_eq_true rfl), (Nat.le_of_ble_eq_true rfl)⟩ ⟨(Nat.le_of_ble_eq_true rfl), (Nat.le_of_ble_eq_true rfl)⟩ hK hH (fun q h => Or.inr h) Bl0 (fun _ _ _ => trivial) 10 0 rfl (mwc0 C A u2) rfl hl.1 rfl (Nat.le_of_ble_eq_true rfl) dX10_race_22 (fun u12 H locs p14 hH => ?_)
    obtain ⟨hI, hUu12, p14⟩ := p14
    refine lv_aload_n hx hb dX10_race_25 rfl (lv_at hl 0 rfl) ?_
    refine va_get (ci := 10) (v := .int (gi u12 35)) (C := RX10) (T := TX10) (N := 42) hx hb hts (fun w h => uc_in w (inX10 w h)) hown hK hH.1 0 (mwc0 C A u12) rfl 35 (by decide) (hts _ (uc_in _ q_f1223)) (fun _ h9 => h9) rfl dX10_race_26 ?_
    refine lv_if_ne (tgt := 38) hx hb dX10_race_29 (by decide) (fun c15 => ?_) (fun c15 => ?_)
    · refine lv_aload_n hx hb dX10_race_38 rfl (lv_at hl 0 rfl) ?_
      refine va_get (ci := 10) (v := .int (gi u12 37)) (C := RX10) (T := TX10) (N := 42) hx hb hts (fun w h => uc_in w (inX10 w h)) hown hK hH.1 0 (mwc0 C A u12) rfl 37 (by decide) (hts _ (uc_in _ q_f1225)) (fun _ h9 => h9) rfl dX10_race_39 ?_
      exact hret _ _ _ _ (gi u12 37) _ dX10_race_42 rfl ⟨hI, (Un.tr (Un.tr (Un.si Un.rf rfl eu1) hUu2 rfl rfl rfl) hUu12 rfl rfl rfl), trivial⟩ hH
    · have c15 := cEQ (x := (gi u12 35)) (y := 0) (X := ((gi u12 35)).toInt) (Y := 0) rfl (by decide) c15
      refine lv_sipush (v := 10000) hx hb dX10_race_32 (by decide) ?_
      refine lv_goto (tgt := 42) hx hb dX10_race_35 (by decide) ?_
      exact hret _ _ _ _ (10000 : Int32) _ dX10_race_42 rfl ⟨hI, (Un.tr (Un.tr (Un.si Un.rf rfl eu1) hUu2 rfl rfl rfl) hUu12 rfl rfl rfl), trivial⟩ hH
  · subst e9
    refine lv_if_ne (tgt := 18) hx hb dX10_race_12 (by decide) (fun c16 => absurd c16 (by decide)) (fun c16 => ?_)
    refine lv_bipush (v := (-2)) hx hb dX10_race_15 (by decide) ?_
    exact hret _ _ _ _ ((-2) : Int32) _ dX10_race_17 rfl ⟨hI, (Un.tr (Un.si Un.rf rfl eu1) hUu2 rfl rfl rfl), trivial⟩ hH
set_option maxHeartbeats 4000000 in
set_option maxRecDepth 100000 in
theorem kX10_rate_0 (l : Launch) (D : va_G) (C : Nat → ClassId) (A : Nat → Nat) (u : St) (hI : IM u) (a0 : Int32) (A0 : Int) (ha0 : a0.toInt = A0) (a1 : Int32) (A1 : Int) (ha1 : a1.toInt = A1) (sz : Nat) : MetI l yX10_rate cX10_rate 4 (some .int) 3 [.ref (A 0), .int a0, .int a1] D (tyl C) (mw C A) X0 u sz (fun r u' => IM u' ∧ Un [(0, 0)] [(8, 8)] [] u u' ∧ (True)) := by
  refine mI (by decide) (Nat.le_of_ble_eq_true rfl) ?_
  intro p e s m below meth c ls ar Q hx hb hml hown hts hK hH hX hl hret
  have hown : s.vm.findClass RX10 = some m.cls := hown
  have hl : lv_has ls 4 [(0, .ref (A 0)), (1, .int a0), (2, .int a1)] := hl
  refine lv_aload_n hx hb dX10_rate_0 rfl (lv_at hl 0 rfl) ?_
  refine lv_iconst (v := 0) hx hb dX10_rate_1 (by decide) ?_
  refine r_put (j := 0) (ci := 10) (C := RX10) (T := TX10) (N := 42) hx hb hts (fun w h => uc_in w (inX10 w h)) tyX10 tyX10_ok nmX10 hown hK hH 0 (mwc0 C A u) rfl 0 (by decide) (hts _ (uc_in _ q_f1188)) (fun _ h9 => h9) rfl (by decide +kernel) (Nat.le_of_ble_eq_true rfl) (mws0 C A u _) dX10_rate_2 (fun u1 eu1 H locs hH => ?_)
  have hI := hI.pi0 eu1 rfl
  refine lv_aload_n hx hb dX10_rate_5 rfl (lv_at hl 0 rfl) ?_
  refine lv_iload_n hx hb dX10_rate_6 rfl (lv_at hl 1 rfl) ?_
  refine lv_i2l (v := a0.toInt64) hx hb dX10_rate_7 rfl ?_
  refine cvS (n := 1) (As := [.long a0.toInt64]) (rest := []) ⟨hx, hb, hml, hown, hts⟩ uc_in (kX10_isClock_0 l D C A u1 hI a0.toInt64 A0 (tt_i2l ha0)) q_m1460 q_n1462 q_p71 q_i11 q_c1463 hvX10_isClock ⟨(Nat.le_of_ble_eq_true rfl), (Nat.le_of_ble_eq_true rfl)⟩ ⟨(Nat.le_of_ble_eq_true rfl), (Nat.le_of_ble_eq_true rfl)⟩ hK hH.1 10 0 rfl (mwc0 C A u1) rfl hl.1 rfl (Nat.le_of_ble_eq_true rfl) dX10_rate_8 (fun r2 p3 => ?_)
  rcases p3 with ⟨e9, f4, f5⟩ | e9
  · subst e9
    have b7 : 0 ≤ ((ga u1 7 3)).toInt ∧ ((ga u1 7 3)).toInt ≤ 6 := hI.has 3
    refine lv_if_eq (tgt := 26) hx hb dX10_rate_11 (by decide) (fun c8 => absurd c8 (by decide)) (fun c8 => ?_)
    refine lv_iload_n hx hb dX10_rate_14 rfl (lv_at hl 2 rfl) ?_
    refine lv_i2l (v := a1.toInt64) hx hb dX10_rate_15 rfl ?_
    refine lv_lconst (v := 0) hx hb dX10_rate_16 (by decide) ?_
    refine lv_ldc2 (v := 999) hx hb hown (hts _ (uc_in _ q_k1899)) dX10_rate_17 ?_
    refine csS (n := 3) (As := [.long a1.toInt64, .long 0, .long 999]) (rest := []) ⟨hx, hb, hml, hown, hts⟩ uc_in (kX10_in_0 l D C A u1 hI a1.toInt64 A1 (tt_i2l ha1) (0) 0 (by decide) (999) 999 (by decide)) q_m1324 q_s1325 q_i11 q_c1326 hvX10_in ⟨(Nat.le_of_ble_eq_true rfl), (Nat.le_of_ble_eq_true rfl)⟩ ⟨(Nat.le_of_ble_eq_true rfl), (Nat.le_of_ble_eq_true rfl)⟩ hK hH.1 rfl hl.1 rfl (Nat.le_of_ble_eq_true rfl) dX10_rate_20 (fun r9 p10 => ?_)
    rcases p10 with ⟨e9, f11, f12⟩ | ⟨e9, fn13⟩
    · subst e9
      refine lv_if_ne (tgt := 29) hx hb dX10_rate_23 (by decide) (fun c14 => ?_) (fun c14 => absurd c14 (by decide))
      refine lv_aload_n hx hb dX10_rate_29 rfl (lv_at hl 0 rfl) ?_
      refine va_get (ci := 10) (v := .ref (A 7)) (C := RX10) (T := TX10) (N := 42) hx hb hts (fun w h => uc_in w (inX10 w h)) hown hK hH.1 0 (mwc0 C A u1) rfl 17 (by decide) (hts _ (uc_in _ q_f1205)) (fun _ h9 => h9) rfl dX10_rate_30 ?_
      refine lv_iconst (v := 5) hx hb dX10_rate_33 (by decide) ?_
      refine va_iald hx hb hK hH.1 7 1 (mwc7 C A u1) rfl (i_ix (X := 5) (by decide) (by decide) (by decide)) dX10_rate_34 ?_
      refine pv_i (v := (ga u1 7 5)) rfl ?_
      have b15 : 0 ≤ ((ga u1 7 5)).toInt ∧ ((ga u1 7 5)).toInt ≤ 40 := hI.has 5
      refine lv_if_le (tgt := 41) hx hb dX10_rate_35 (by decide) (fun c16 => ?_) (fun c16 => ?_)
      · have c16 := cLE (x := (ga u1 7 5)) (y := 0) (X := ((ga u1 7 5)).toInt) (Y := 0) rfl (by decide) c16
        refine lv_aload_n hx hb dX10_rate_41 rfl (lv_at hl 0 rfl) ?_
        refine va_get (ci := 10) (v := .ref (A 8)) (C := RX10) (T := TX10) (N := 42) hx hb hts (fun w h => uc_in w (inX10 w h)) hown hK hH.1 0 (mwc0 C A u1) rfl 18 (by decide) (hts _ (uc_in _ q_f1206)) (fun _ h9 => h9) rfl dX10_rate_42 ?_
        refine lv_iconst (v := 5) hx hb dX10_rate_45 (by decide) ?_
        refine lv_iload_n hx hb dX10_rate_46 rfl (lv_at hl 1 rfl) ?_
        refine lv_imul hx hb dX10_rate_47 ?_
        refine p_nm (tt_mul (X := 5) (Y := A0) (by decide) ha0 (by omega) (by omega)) (fun z17 hz17 => ?_)
        refine lv_iconst (v := 3) hx hb dX10_rate_48 (by decide) ?_
        refine lv_iadd hx hb dX10_rate_49 ?_
        refine p_nm (tt_add (X := (5 * A0)) (Y := 3) hz17 (by decide) (by omega) (by omega)) (fun z18 hz18 => ?_)
        refine va_iald hx hb hK hH.1 8 1 (mwc8 C A u1) rfl (i_ix hz18 (by omega) (by omega)) dX10_rate_50 ?_
        refine p_any (fun z19 => ?_)
        refine lv_istore_n (lv' := [(3, .int z19), (0, .ref (A 0)), (1, .int a0), (2, .int a1)]) hx hb dX10_rate_51 rfl hl (by decide) rfl (fun ls hl => ?_)
        refine lv_aload_n hx hb dX10_rate_52 rfl (lv_at hl 1 rfl) ?_
        refine va_get (ci := 10) (v := .ref (A 8)) (C := RX10) (T := TX10) (N := 42) hx hb hts (fun w h => uc_in w (inX10 w h)) hown hK hH.1 0 (mwc0 C A u1) rfl 18 (by decide) (hts _ (uc_in _ q_f1206)) (fun _ h9 => h9) rfl dX10_rate_53 ?_
        refine lv_iconst (v := 5) hx hb dX10_rate_56 (by decide) ?_
        refine lv_iload_n hx hb dX10_rate_57 rfl (lv_at hl 2 rfl) ?_
        refine lv_imul hx hb dX10_rate_58 ?_
        refine p_nm (tt_mul (X := 5) (Y := A0) (by decide) ha0 (by omega) (by omega)) (fun z20 hz20 => ?_)
        refine lv_iconst (v := 3) hx hb dX10_rate_59 (by decide) ?_
        refine lv_iadd hx hb dX10_rate_60 ?_
        refine p_nm (tt_add (X := (5 * A0)) (Y := 3) hz20 (by decide) (by omega) (by omega)) (fun z21 hz21 => ?_)
        refine lv_iload_n hx hb dX10_rate_61 rfl (lv_at hl 3 rfl) ?_
        refine r_iast (j := 8) hx hb hK hH 8 1 (mwc8 C A u1) rfl (i_ix hz21 (by omega) (by omega)) (mwa8 C A u1) dX10_rate_62 (fun u22 eu22 H locs hH => ?_)
        have hI := hI.pa0 eu22 (by decide) (by decide) (by decide)
        refine lv_iload_n hx hb dX10_rate_63 rfl (lv_at hl 0 rfl) ?_
        exact hret _ _ _ _ z19 _ dX10_rate_64 rfl ⟨hI, (Un.sa (Un.si Un.rf rfl eu1) rfl eu22), trivial⟩ hH
      · have c16 := cNLE (x := (ga u1 7 5)) (y := 0) (X := ((ga u1 7 5)).toInt) (Y := 0) rfl (by decide) c16
        refine lv_bipush (v := (-5)) hx hb dX10_rate_38 (by decide) ?_
        exact hret _ _ _ _ ((-5) : Int32) _ dX10_rate_40 rfl ⟨hI, (Un.si Un.rf rfl eu1), trivial⟩ hH
    · subst e9
      refine lv_if_ne (tgt := 29) hx hb dX10_rate_23 (by decide) (fun c23 => absurd c23 (by decide)) (fun c23 => ?_)
      refine lv_bipush (v := (-2)) hx hb dX10_rate_26 (by decide) ?_
      exact hret _ _ _ _ ((-2) : Int32) _ dX10_rate_28 rfl ⟨hI, (Un.si Un.rf rfl eu1), trivial⟩ hH
  · subst e9
    refine lv_if_eq (tgt := 26) hx hb dX10_rate_11 (by decide) (fun c24 => ?_) (fun c24 => absurd c24 (by decide))
    refine lv_bipush (v := (-2)) hx hb dX10_rate_26 (by decide) ?_
    exact hret _ _ _ _ ((-2) : Int32) _ dX10_rate_28 rfl ⟨hI, (Un.si Un.rf rfl eu1), trivial⟩ hH
set_option maxHeartbeats 4000000 in
set_option maxRecDepth 100000 in
theorem kX10_register_0 (l : Launch) (D : va_G) (C : Nat → ClassId) (A : Nat → Nat) (u : St) (hI : IM u) (a0 : Int32) (A0 : Int) (ha0 : a0.toInt = A0) (sz : Nat) : MetI l yX10_register cX10_register 2 (some .int) 4 [.ref (A 0), .int a0] D (tyl C) (mw C A) X0 u sz (fun r u' => IM u' ∧ Un [(0, 0), (24, 24), (25, 25)] [(12, 12), (13, 13)] [] u u' ∧ ((-2) ≤ r.toInt ∧ r.toInt ≤ 63)) := by
  refine mI (by decide) (Nat.le_of_ble_eq_true rfl) ?_
  intro p e s m below meth c ls ar Q hx hb hml hown hts hK hH hX hl hret
  have hown : s.vm.findClass RX10 = some m.cls := hown
  have hl : lv_has ls 2 [(0, .ref (A 0)), (1, .int a0)] := hl
  refine lv_aload_n hx hb dX10_register_0 rfl (lv_at hl 0 rfl) ?_
  refine lv_iconst (v := 0) hx hb dX10_register_1 (by decide) ?_
  refine r_put (j := 0) (ci := 10) (C := RX10) (T := TX10) (N := 42) hx hb hts (fun w h => uc_in w (inX10 w h)) tyX10 tyX10_ok nmX10 hown hK hH 0 (mwc0 C A u) rfl 0 (by decide) (hts _ (uc_in _ q_f1188)) (fun _ h9 => h9) rfl (by decide +kernel) (Nat.le_of_ble_eq_true rfl) (mws0 C A u _) dX10_register_2 (fun u1 eu1 H locs hH => ?_)
  have hI := hI.pi0 eu1 rfl
  refine lv_aload_n hx hb dX10_register_5 rfl (lv_at hl 0 rfl) ?_
  refine lv_iload_n hx hb dX10_register_6 rfl (lv_at hl 1 rfl) ?_
  refine lv_i2l (v := a0.toInt64) hx hb dX10_register_7 rfl ?_
  refine cvS (n := 1) (As := [.long a0.toInt64]) (rest := []) ⟨hx, hb, hml, hown, hts⟩ uc_in (kX10_isDay_0 l D C A u1 hI a0.toInt64 A0 (tt_i2l ha0)) q_m1473 q_n1475 q_p73 q_i11 q_c1476 hvX10_isDay ⟨(Nat.le_of_ble_eq_true rfl), (Nat.le_of_ble_eq_true rfl)⟩ ⟨(Nat.le_of_ble_eq_true rfl), (Nat.le_of_ble_eq_true rfl)⟩ hK hH.1 10 0 rfl (mwc0 C A u1) rfl hl.1 rfl (Nat.le_of_ble_eq_true rfl) dX10_register_8 (fun r2 p3 => ?_)
  rcases p3 with ⟨e9, f4, f5⟩ | e9
  · subst e9
    have b7 : 0 ≤ ((ga u1 7 0)).toInt ∧ ((ga u1 7 0)).toInt ≤ 7 := hI.has 0
    refine lv_if_ne (tgt := 17) hx hb dX10_register_11 (by decide) (fun c8 => ?_) (fun c8 => absurd c8 (by decide))
    refine lv_aload_n hx hb dX10_register_17 rfl (lv_at hl 0 rfl) ?_
    refine cvU (n := 0) (As := []) (rest := []) ⟨hx, hb, hml, hown, hts⟩ uc_in (kX10_lays_0 l D C A u1 hI  _) q_m1481 q_n1483 q_p75 q_i11 q_c1484 hvX10_lays ⟨(Nat.le_of_ble_eq_true rfl), (Nat.le_of_ble_eq_true rfl)⟩ ⟨(Nat.le_of_ble_eq_true rfl), (Nat.le_of_ble_eq_true rfl)⟩ hK hH (fun q h => Or.inr h) Bl0 (fun _ _ _ => trivial) 10 0 rfl (mwc0 C A u1) rfl hl.1 rfl (Nat.le_of_ble_eq_true rfl) dX10_register_18 (fun u9 H locs p11 hH => ?_)
    obtain ⟨hI, hUu9, p11⟩ := p11
    refine lv_iconst (v := 1) hx hb dX10_register_21 (by decide) ?_
    refine lv_aload_n hx hb dX10_register_22 rfl (lv_at hl 0 rfl) ?_
    refine cvS (n := 0) (As := []) (rest := [.int 1]) ⟨hx, hb, hml, hown, hts⟩ uc_in (kX10_clocks_0 l D C A u9 hI ) q_m1464 q_n1466 q_p72 q_i11 q_c1467 hvX10_clocks ⟨(Nat.le_of_ble_eq_true rfl), (Nat.le_of_ble_eq_true rfl)⟩ ⟨(Nat.le_of_ble_eq_true rfl), (Nat.le_of_ble_eq_true rfl)⟩ hK hH.1 10 0 rfl (mwc0 C A u9) rfl hl.1 rfl (Nat.le_of_ble_eq_true rfl) dX10_register_23 (fun r12 p13 => ?_)
    subst p13
    have b14 : 0 ≤ ((ga u9 7 3)).toInt ∧ ((ga u9 7 3)).toInt ≤ 6 := hI.has 3
    refine lv_ishl hx hb dX10_register_26 ?_
    have gz15 := tt_shl1 (y := (ga u9 7 3)) (Y := ((ga u9 7 3)).toInt) rfl (by omega) (by omega)
    refine p_bd (P := fun q => 1 ≤ q ∧ q ≤ 64) ⟨by omega, by omega⟩ (fun z16 bz16 => ?_)
    have bz16 : 1 ≤ z16.toInt ∧ z16.toInt ≤ 64 := bz16
    refine lv_iconst (v := 1) hx hb dX10_register_27 (by decide) ?_
    refine lv_isub hx hb dX10_register_28 ?_
    refine p_nm (tt_sub (X := z16.toInt) (Y := 1) rfl (by decide) (by omega) (by omega)) (fun z17 hz17 => ?_)
    refine lv_aload_n hx hb dX10_register_29 rfl (lv_at hl 0 rfl) ?_
    refine lv_iload_n hx hb dX10_register_30 rfl (lv_at hl 1 rfl) ?_
    refine cvS (n := 1) (As := [.int a0]) (rest := [.int z17]) ⟨hx, hb, hml, hown, hts⟩ uc_in (kX10_countsOf_0 l D C A u9 hI a0 A0 ha0 (by omega) (by omega)) q_m1500 q_n1502 q_p78 q_i11 q_c1503 hvX10_countsOf ⟨(Nat.le_of_ble_eq_true rfl), (Nat.le_of_ble_eq_true rfl)⟩ ⟨(Nat.le_of_ble_eq_true rfl), (Nat.le_of_ble_eq_true rfl)⟩ hK hH.1 10 0 rfl (mwc0 C A u9) rfl hl.1 rfl (Nat.le_of_ble_eq_true rfl) dX10_register_31 (fun r18 p19 => ?_)
    have g20 : (ga u9 7 3).toInt ≤ 6 := (hI.has 3).2
    have br18 : 0 ≤ r18.toInt ∧ r18.toInt ≤ 63 := ⟨p19.1, p19.2.1⟩
    refine lv_iconst (v := (-1)) hx hb dX10_register_34 (by decide) ?_
    refine lv_ixor hx hb dX10_register_35 ?_
    refine p_any (fun z21 => ?_)
    refine lv_iand hx hb dX10_register_36 ?_
    have gz22 := tt_andL (x := z17) (y := z21) (X := (z16.toInt - 1)) hz17 (by omega)
    refine p_bd (P := fun q => 0 ≤ q ∧ q ≤ 63) ⟨by omega, by omega⟩ (fun z23 bz23 => ?_)
    have bz23 : 0 ≤ z23.toInt ∧ z23.toInt ≤ 63 := bz23
    exact hret _ _ _ _ z23 _ dX10_register_37 rfl ⟨hI, (Un.tr (Un.si Un.rf rfl eu1) hUu9 rfl rfl rfl), ⟨by omega, by omega⟩⟩ hH
  · subst e9
    refine lv_if_ne (tgt := 17) hx hb dX10_register_11 (by decide) (fun c24 => absurd c24 (by decide)) (fun c24 => ?_)
    refine lv_bipush (v := (-2)) hx hb dX10_register_14 (by decide) ?_
    exact hret _ _ _ _ ((-2) : Int32) _ dX10_register_16 rfl ⟨hI, (Un.si Un.rf rfl eu1), ⟨by decide, by decide⟩⟩ hH
set_option maxHeartbeats 4000000 in
set_option maxRecDepth 100000 in
theorem kX10_reign_0 (l : Launch) (D : va_G) (C : Nat → ClassId) (A : Nat → Nat) (u : St) (hI : IM u) (a0 : Int32) (A0 : Int) (ha0 : a0.toInt = A0) (sz : Nat) : MetI l yX10_reign cX10_reign 2 (some .int) 4 [.ref (A 0), .int a0] D (tyl C) (mw C A) X0 u sz (fun r u' => IM u' ∧ Un [(0, 0), (24, 24), (25, 25)] [(12, 12), (13, 13)] [] u u' ∧ (True)) := by
  refine mI (by decide) (Nat.le_of_ble_eq_true rfl) ?_
  intro p e s m below meth c ls ar Q hx hb hml hown hts hK hH hX hl hret
  have hown : s.vm.findClass RX10 = some m.cls := hown
  have hl : lv_has ls 2 [(0, .ref (A 0)), (1, .int a0)] := hl
  refine lv_aload_n hx hb dX10_reign_0 rfl (lv_at hl 0 rfl) ?_
  refine lv_iconst (v := 0) hx hb dX10_reign_1 (by decide) ?_
  refine r_put (j := 0) (ci := 10) (C := RX10) (T := TX10) (N := 42) hx hb hts (fun w h => uc_in w (inX10 w h)) tyX10 tyX10_ok nmX10 hown hK hH 0 (mwc0 C A u) rfl 0 (by decide) (hts _ (uc_in _ q_f1188)) (fun _ h9 => h9) rfl (by decide +kernel) (Nat.le_of_ble_eq_true rfl) (mws0 C A u _) dX10_reign_2 (fun u1 eu1 H locs hH => ?_)
  have hI := hI.pi0 eu1 rfl
  refine lv_aload_n hx hb dX10_reign_5 rfl (lv_at hl 0 rfl) ?_
  refine lv_iload_n hx hb dX10_reign_6 rfl (lv_at hl 1 rfl) ?_
  refine lv_i2l (v := a0.toInt64) hx hb dX10_reign_7 rfl ?_
  refine cvS (n := 1) (As := [.long a0.toInt64]) (rest := []) ⟨hx, hb, hml, hown, hts⟩ uc_in (kX10_isClock_0 l D C A u1 hI a0.toInt64 A0 (tt_i2l ha0)) q_m1460 q_n1462 q_p71 q_i11 q_c1463 hvX10_isClock ⟨(Nat.le_of_ble_eq_true rfl), (Nat.le_of_ble_eq_true rfl)⟩ ⟨(Nat.le_of_ble_eq_true rfl), (Nat.le_of_ble_eq_true rfl)⟩ hK hH.1 10 0 rfl (mwc0 C A u1) rfl hl.1 rfl (Nat.le_of_ble_eq_true rfl) dX10_reign_8 (fun r2 p3 => ?_)
  rcases p3 with ⟨e9, f4, f5⟩ | e9
  · subst e9
    have b7 : 0 ≤ ((ga u1 7 3)).toInt ∧ ((ga u1 7 3)).toInt ≤ 6 := hI.has 3
    refine lv_if_ne (tgt := 17) hx hb dX10_reign_11 (by decide) (fun c8 => ?_) (fun c8 => absurd c8 (by decide))
    refine lv_aload_n hx hb dX10_reign_17 rfl (lv_at hl 0 rfl) ?_
    refine cvU (n := 0) (As := []) (rest := []) ⟨hx, hb, hml, hown, hts⟩ uc_in (kX10_lays_0 l D C A u1 hI  _) q_m1481 q_n1483 q_p75 q_i11 q_c1484 hvX10_lays ⟨(Nat.le_of_ble_eq_true rfl), (Nat.le_of_ble_eq_true rfl)⟩ ⟨(Nat.le_of_ble_eq_true rfl), (Nat.le_of_ble_eq_true rfl)⟩ hK hH (fun q h => Or.inr h) Bl0 (fun _ _ _ => trivial) 10 0 rfl (mwc0 C A u1) rfl hl.1 rfl (Nat.le_of_ble_eq_true rfl) dX10_reign_18 (fun u9 H locs p11 hH => ?_)
    obtain ⟨hI, hUu9, p11⟩ := p11
    refine lv_aload_n hx hb dX10_reign_21 rfl (lv_at hl 0 rfl) ?_
    refine lv_iload_n hx hb dX10_reign_22 rfl (lv_at hl 1 rfl) ?_
    refine cvS (n := 1) (As := [.int a0]) (rest := []) ⟨hx, hb, hml, hown, hts⟩ uc_in (kX10_reignOf_0 l D C A u9 hI a0 A0 ha0) q_m1570 q_n1572 q_p86 q_i11 q_c1573 hvX10_reignOf ⟨(Nat.le_of_ble_eq_true rfl), (Nat.le_of_ble_eq_true rfl)⟩ ⟨(Nat.le_of_ble_eq_true rfl), (Nat.le_of_ble_eq_true rfl)⟩ hK hH.1 10 0 rfl (mwc0 C A u9) rfl hl.1 rfl (Nat.le_of_ble_eq_true rfl) dX10_reign_23 (fun r12 p13 => ?_)
    exact hret _ _ _ _ r12 _ dX10_reign_26 rfl ⟨hI, (Un.tr (Un.si Un.rf rfl eu1) hUu9 rfl rfl rfl), trivial⟩ hH
  · subst e9
    refine lv_if_ne (tgt := 17) hx hb dX10_reign_11 (by decide) (fun c14 => absurd c14 (by decide)) (fun c14 => ?_)
    refine lv_bipush (v := (-2)) hx hb dX10_reign_14 (by decide) ?_
    exact hret _ _ _ _ ((-2) : Int32) _ dX10_reign_16 rfl ⟨hI, (Un.si Un.rf rfl eu1), trivial⟩ hH
set_option maxHeartbeats 4000000 in
set_option maxRecDepth 100000 in
theorem kX10_rents_0 (l : Launch) (D : va_G) (C : Nat → ClassId) (A : Nat → Nat) (u : St) (hI : IM u) (a0 : Int32) (A0 : Int) (ha0 : a0.toInt = A0) (sz : Nat) : MetI l yX10_rents cX10_rents 2 (some .int) 5 [.ref (A 0), .int a0] D (tyl C) (mw C A) X0 u sz (fun r u' => IM u' ∧ Un [(0, 0), (24, 24), (25, 25)] [(12, 12), (13, 13)] [] u u' ∧ (True)) := by
  refine mI (by decide) (Nat.le_of_ble_eq_true rfl) ?_
  intro p e s m below meth c ls ar Q hx hb hml hown hts hK hH hX hl hret
  have hown : s.vm.findClass RX10 = some m.cls := hown
  have hl : lv_has ls 2 [(0, .ref (A 0)), (1, .int a0)] := hl
  refine lv_aload_n hx hb dX10_rents_0 rfl (lv_at hl 0 rfl) ?_
  refine lv_iconst (v := 0) hx hb dX10_rents_1 (by decide) ?_
  refine r_put (j := 0) (ci := 10) (C := RX10) (T := TX10) (N := 42) hx hb hts (fun w h => uc_in w (inX10 w h)) tyX10 tyX10_ok nmX10 hown hK hH 0 (mwc0 C A u) rfl 0 (by decide) (hts _ (uc_in _ q_f1188)) (fun _ h9 => h9) rfl (by decide +kernel) (Nat.le_of_ble_eq_true rfl) (mws0 C A u _) dX10_rents_2 (fun u1 eu1 H locs hH => ?_)
  have hI := hI.pi0 eu1 rfl
  refine lv_aload_n hx hb dX10_rents_5 rfl (lv_at hl 0 rfl) ?_
  refine lv_iload_n hx hb dX10_rents_6 rfl (lv_at hl 1 rfl) ?_
  refine lv_i2l (v := a0.toInt64) hx hb dX10_rents_7 rfl ?_
  refine cvS (n := 1) (As := [.long a0.toInt64]) (rest := []) ⟨hx, hb, hml, hown, hts⟩ uc_in (kX10_isClock_0 l D C A u1 hI a0.toInt64 A0 (tt_i2l ha0)) q_m1460 q_n1462 q_p71 q_i11 q_c1463 hvX10_isClock ⟨(Nat.le_of_ble_eq_true rfl), (Nat.le_of_ble_eq_true rfl)⟩ ⟨(Nat.le_of_ble_eq_true rfl), (Nat.le_of_ble_eq_true rfl)⟩ hK hH.1 10 0 rfl (mwc0 C A u1) rfl hl.1 rfl (Nat.le_of_ble_eq_true rfl) dX10_rents_8 (fun r2 p3 => ?_)
  rcases p3 with ⟨e9, f4, f5⟩ | e9
  · subst e9
    have b7 : 0 ≤ ((ga u1 7 3)).toInt ∧ ((ga u1 7 3)).toInt ≤ 6 := hI.has 3
    refine lv_if_ne (tgt := 17) hx hb dX10_rents_11 (by decide) (fun c8 => ?_) (fun c8 => absurd c8 (by decide))
    refine lv_aload_n hx hb dX10_rents_17 rfl (lv_at hl 0 rfl) ?_
    refine cvU (n := 0) (As := []) (rest := []) ⟨hx, hb, hml, hown, hts⟩ uc_in (kX10_lays_0 l D C A u1 hI  _) q_m1481 q_n1483 q_p75 q_i11 q_c1484 hvX10_lays ⟨(Nat.le_of_ble_eq_true rfl), (Nat.le_of_ble_eq_true rfl)⟩ ⟨(Nat.le_of_ble_eq_true rfl), (Nat.le_of_ble_eq_true rfl)⟩ hK hH (fun q h => Or.inr h) Bl0 (fun _ _ _ => trivial) 10 0 rfl (mwc0 C A u1) rfl hl.1 rfl (Nat.le_of_ble_eq_true rfl) dX10_rents_18 (fun u9 H locs p11 hH => ?_)
    obtain ⟨hI, hUu9, p11⟩ := p11
    refine lv_aload_n hx hb dX10_rents_21 rfl (lv_at hl 0 rfl) ?_
    refine lv_iload_n hx hb dX10_rents_22 rfl (lv_at hl 1 rfl) ?_
    refine cvS (n := 1) (As := [.int a0]) (rest := []) ⟨hx, hb, hml, hown, hts⟩ uc_in (kX10_rentsOf_0 l D C A u9 hI a0 A0 ha0 (by omega) (by omega)) q_m1578 q_n1580 q_p87 q_i11 q_c1581 hvX10_rentsOf ⟨(Nat.le_of_ble_eq_true rfl), (Nat.le_of_ble_eq_true rfl)⟩ ⟨(Nat.le_of_ble_eq_true rfl), (Nat.le_of_ble_eq_true rfl)⟩ hK hH.1 10 0 rfl (mwc0 C A u9) rfl hl.1 rfl (Nat.le_of_ble_eq_true rfl) dX10_rents_23 (fun r12 p13 => ?_)
    exact hret _ _ _ _ r12 _ dX10_rents_26 rfl ⟨hI, (Un.tr (Un.si Un.rf rfl eu1) hUu9 rfl rfl rfl), trivial⟩ hH
  · subst e9
    refine lv_if_ne (tgt := 17) hx hb dX10_rents_11 (by decide) (fun c14 => absurd c14 (by decide)) (fun c14 => ?_)
    refine lv_bipush (v := (-2)) hx hb dX10_rents_14 (by decide) ?_
    exact hret _ _ _ _ ((-2) : Int32) _ dX10_rents_16 rfl ⟨hI, (Un.si Un.rf rfl eu1), trivial⟩ hH
set_option maxHeartbeats 4000000 in
set_option maxRecDepth 100000 in
theorem kX10_rest_0 (l : Launch) (D : va_G) (C : Nat → ClassId) (A : Nat → Nat) (u : St) (hI : IM u) (a0 : Int32) (A0 : Int) (ha0 : a0.toInt = A0) (a1 : Int32) (A1 : Int) (ha1 : a1.toInt = A1) (a2 : Int32) (A2 : Int) (ha2 : a2.toInt = A2) (sz : Nat) : MetI l yX10_rest cX10_rest 4 (some .int) 8 [.ref (A 0), .int a0, .int a1, .int a2] D (tyl C) (mw C A) X0 u sz (fun r u' => IM u' ∧ Un [(0, 0), (24, 24), (25, 25), (34, 34), (35, 35), (36, 36), (37, 37)] [(12, 12), (13, 13)] [] u u' ∧ (True)) := by
  refine mI (by decide) (Nat.le_of_ble_eq_true rfl) ?_
  intro p e s m below meth c ls ar Q hx hb hml hown hts hK hH hX hl hret
  have hown : s.vm.findClass RX10 = some m.cls := hown
  have hl : lv_has ls 4 [(0, .ref (A 0)), (1, .int a0), (2, .int a1), (3, .int a2)] := hl
  refine lv_aload_n hx hb dX10_rest_0 rfl (lv_at hl 0 rfl) ?_
  refine lv_iconst (v := 0) hx hb dX10_rest_1 (by decide) ?_
  refine r_put (j := 0) (ci := 10) (C := RX10) (T := TX10) (N := 42) hx hb hts (fun w h => uc_in w (inX10 w h)) tyX10 tyX10_ok nmX10 hown hK hH 0 (mwc0 C A u) rfl 0 (by decide) (hts _ (uc_in _ q_f1188)) (fun _ h9 => h9) rfl (by decide +kernel) (Nat.le_of_ble_eq_true rfl) (mws0 C A u _) dX10_rest_2 (fun u1 eu1 H locs hH => ?_)
  have hI := hI.pi0 eu1 rfl
  refine lv_aload_n hx hb dX10_rest_5 rfl (lv_at hl 0 rfl) ?_
  refine lv_iload_n hx hb dX10_rest_6 rfl (lv_at hl 1 rfl) ?_
  refine lv_iload_n hx hb dX10_rest_7 rfl (lv_at hl 2 rfl) ?_
  refine lv_iload_n hx hb dX10_rest_8 rfl (lv_at hl 3 rfl) ?_
  refine cvI (n := 3) (As := [.int a0, .int a1, .int a2]) (rest := []) ⟨hx, hb, hml, hown, hts⟩ uc_in (kX10_isRace_0 l D C A u1 hI a0 A0 ha0 a1 A1 ha1 a2 A2 ha2 _) q_m1760 q_n1762 q_p100 q_i11 q_c1763 hvX10_isRace ⟨(Nat.le_of_ble_eq_true rfl), (Nat.le_of_ble_eq_true rfl)⟩ ⟨(Nat.le_of_ble_eq_true rfl), (Nat.le_of_ble_eq_true rfl)⟩ hK hH (fun q h => Or.inr h) Bl0 (fun _ _ _ => trivial) 10 0 rfl (mwc0 C A u1) rfl hl.1 rfl (Nat.le_of_ble_eq_true rfl) dX10_rest_9 (fun r3 u2 H locs p4 hH => ?_)
  obtain ⟨hI, hUu2, p4⟩ := p4
  rcases p4 with ⟨e9, f5, f6, f7, f8, f9, f10⟩ | e9
  · subst e9
    refine lv_if_ne (tgt := 18) hx hb dX10_rest_12 (by decide) (fun c11 => ?_) (fun c11 => absurd c11 (by decide))
    refine lv_aload_n hx hb dX10_rest_18 rfl (lv_at hl 0 rfl) ?_
    refine lv_iload_n hx hb dX10_rest_19 rfl (lv_at hl 1 rfl) ?_
    refine lv_iload_n hx hb dX10_rest_20 rfl (lv_at hl 2 rfl) ?_
    refine lv_iload_n hx hb dX10_rest_21 rfl (lv_at hl 3 rfl) ?_
    refine cvU (n := 3) (As := [.int a0, .int a1, .int a2]) (rest := []) ⟨hx, hb, hml, hown, hts⟩ uc_in (kX10_laysRests_0 l D C A u2 hI a0 A0 ha0 a1 A1 ha1 a2 A2 ha2 (by omega) (by omega) (by omega) (by omega) (by omega) (by omega) _) q_m1764 q_n1766 q_p101 q_i11 q_c1767 hvX10_laysRests ⟨(Nat.le_of_ble_eq_true rfl), (Nat.le_of_ble_eq_true rfl)⟩ ⟨(Nat.le_of_ble_eq_true rfl), (Nat.le_of_ble_eq_true rfl)⟩ hK hH (fun q h => Or.inr h) Bl0 (fun _ _ _ => trivial) 10 0 rfl (mwc0 C A u2) rfl hl.1 rfl (Nat.le_of_ble_eq_true rfl) dX10_rest_22 (fun u12 H locs p14 hH => ?_)
    obtain ⟨hI, hUu12, p14⟩ := p14
    refine lv_aload_n hx hb dX10_rest_25 rfl (lv_at hl 0 rfl) ?_
    refine va_get (ci := 10) (v := .int (gi u12 36)) (C := RX10) (T := TX10) (N := 42) hx hb hts (fun w h => uc_in w (inX10 w h)) hown hK hH.1 0 (mwc0 C A u12) rfl 36 (by decide) (hts _ (uc_in _ q_f1224)) (fun _ h9 => h9) rfl dX10_rest_26 ?_
    exact hret _ _ _ _ (gi u12 36) _ dX10_rest_29 rfl ⟨hI, (Un.tr (Un.tr (Un.si Un.rf rfl eu1) hUu2 rfl rfl rfl) hUu12 rfl rfl rfl), trivial⟩ hH
  · subst e9
    refine lv_if_ne (tgt := 18) hx hb dX10_rest_12 (by decide) (fun c15 => absurd c15 (by decide)) (fun c15 => ?_)
    refine lv_bipush (v := (-2)) hx hb dX10_rest_15 (by decide) ?_
    exact hret _ _ _ _ ((-2) : Int32) _ dX10_rest_17 rfl ⟨hI, (Un.tr (Un.si Un.rf rfl eu1) hUu2 rfl rfl rfl), trivial⟩ hH
set_option maxHeartbeats 4000000 in
set_option maxRecDepth 100000 in
theorem kX10_rests_0 (l : Launch) (D : va_G) (C : Nat → ClassId) (A : Nat → Nat) (u : St) (hI : IM u) (a0 : Int32) (A0 : Int) (ha0 : a0.toInt = A0) (a1 : Int32) (A1 : Int) (ha1 : a1.toInt = A1) (a2 : Int32) (A2 : Int) (ha2 : a2.toInt = A2) (sz : Nat) : MetI l yX10_rests cX10_rests 4 (some .int) 8 [.ref (A 0), .int a0, .int a1, .int a2] D (tyl C) (mw C A) X0 u sz (fun r u' => IM u' ∧ Un [(0, 0), (24, 24), (25, 25), (34, 34), (35, 35), (36, 36), (37, 37)] [(12, 12), (13, 13)] [] u u' ∧ (True)) := by
  refine mI (by decide) (Nat.le_of_ble_eq_true rfl) ?_
  intro p e s m below meth c ls ar Q hx hb hml hown hts hK hH hX hl hret
  have hown : s.vm.findClass RX10 = some m.cls := hown
  have hl : lv_has ls 4 [(0, .ref (A 0)), (1, .int a0), (2, .int a1), (3, .int a2)] := hl
  refine lv_aload_n hx hb dX10_rests_0 rfl (lv_at hl 0 rfl) ?_
  refine lv_iconst (v := 0) hx hb dX10_rests_1 (by decide) ?_
  refine r_put (j := 0) (ci := 10) (C := RX10) (T := TX10) (N := 42) hx hb hts (fun w h => uc_in w (inX10 w h)) tyX10 tyX10_ok nmX10 hown hK hH 0 (mwc0 C A u) rfl 0 (by decide) (hts _ (uc_in _ q_f1188)) (fun _ h9 => h9) rfl (by decide +kernel) (Nat.le_of_ble_eq_true rfl) (mws0 C A u _) dX10_rests_2 (fun u1 eu1 H locs hH => ?_)
  have hI := hI.pi0 eu1 rfl
  refine lv_aload_n hx hb dX10_rests_5 rfl (lv_at hl 0 rfl) ?_
  refine lv_iload_n hx hb dX10_rests_6 rfl (lv_at hl 1 rfl) ?_
  refine lv_iload_n hx hb dX10_rests_7 rfl (lv_at hl 2 rfl) ?_
  refine lv_iload_n hx hb dX10_rests_8 rfl (lv_at hl 3 rfl) ?_
  refine cvI (n := 3) (As := [.int a0, .int a1, .int a2]) (rest := []) ⟨hx, hb, hml, hown, hts⟩ uc_in (kX10_isRace_0 l D C A u1 hI a0 A0 ha0 a1 A1 ha1 a2 A2 ha2 _) q_m1760 q_n1762 q_p100 q_i11 q_c1763 hvX10_isRace ⟨(Nat.le_of_ble_eq_true rfl), (Nat.le_of_ble_eq_true rfl)⟩ ⟨(Nat.le_of_ble_eq_true rfl), (Nat.le_of_ble_eq_true rfl)⟩ hK hH (fun q h => Or.inr h) Bl0 (fun _ _ _ => trivial) 10 0 rfl (mwc0 C A u1) rfl hl.1 rfl (Nat.le_of_ble_eq_true rfl) dX10_rests_9 (fun r3 u2 H locs p4 hH => ?_)
  obtain ⟨hI, hUu2, p4⟩ := p4
  rcases p4 with ⟨e9, f5, f6, f7, f8, f9, f10⟩ | e9
  · subst e9
    refine lv_if_ne (tgt := 18) hx hb dX10_rests_12 (by decide) (fun c11 => ?_) (fun c11 => absurd c11 (by decide))
    refine lv_aload_n hx hb dX10_rests_18 rfl (lv_at hl 0 rfl) ?_
    refine lv_iload_n hx hb dX10_rests_19 rfl (lv_at hl 1 rfl) ?_
    refine lv_iload_n hx hb dX10_rests_20 rfl (lv_at hl 2 rfl) ?_
    refine lv_iload_n hx hb dX10_rests_21 rfl (lv_at hl 3 rfl) ?_
    refine cvU (n := 3) (As := [.int a0, .int a1, .int a2]) (rest := []) ⟨hx, hb, hml, hown, hts⟩ uc_in (kX10_laysRests_0 l D C A u2 hI a0 A0 ha0 a1 A1 ha1 a2 A2 ha2 (by omega) (by omega) (by omega) (by omega) (by omega) (by omega) _) q_m1764 q_n1766 q_p101 q_i11 q_c1767 hvX10_laysRests ⟨(Nat.le_of_ble_eq_true rfl), (Nat.le_of_ble_eq_true rfl)⟩ ⟨(Nat.le_of_ble_eq_true rfl), (Nat.le_of_ble_eq_true rfl)⟩ hK hH (fun q h => Or.inr h) Bl0 (fun _ _ _ => trivial) 10 0 rfl (mwc0 C A u2) rfl hl.1 rfl (Nat.le_of_ble_eq_true rfl) dX10_rests_22 (fun u12 H locs p14 hH => ?_)
    obtain ⟨hI, hUu12, p14⟩ := p14
    refine lv_aload_n hx hb dX10_rests_25 rfl (lv_at hl 0 rfl) ?_
    refine va_get (ci := 10) (v := .int (gi u12 35)) (C := RX10) (T := TX10) (N := 42) hx hb hts (fun w h => uc_in w (inX10 w h)) hown hK hH.1 0 (mwc0 C A u12) rfl 35 (by decide) (hts _ (uc_in _ q_f1223)) (fun _ h9 => h9) rfl dX10_rests_26 ?_
    exact hret _ _ _ _ (gi u12 35) _ dX10_rests_29 rfl ⟨hI, (Un.tr (Un.tr (Un.si Un.rf rfl eu1) hUu2 rfl rfl rfl) hUu12 rfl rfl rfl), trivial⟩ hH
  · subst e9
    refine lv_if_ne (tgt := 18) hx hb dX10_rests_12 (by decide) (fun c15 => absurd c15 (by decide)) (fun c15 => ?_)
    refine lv_bipush (v := (-2)) hx hb dX10_rests_15 (by decide) ?_
    exact hret _ _ _ _ ((-2) : Int32) _ dX10_rests_17 rfl ⟨hI, (Un.tr (Un.si Un.rf rfl eu1) hUu2 rfl rfl rfl), trivial⟩ hH
set_option maxHeartbeats 4000000 in
set_option maxRecDepth 100000 in
theorem kX10_round_0 (l : Launch) (D : va_G) (C : Nat → ClassId) (A : Nat → Nat) (u : St) (hI : IM u) (a0 : Int32) (A0 : Int) (ha0 : a0.toInt = A0) (sz : Nat) : MetI l yX10_round cX10_round 2 (some .int) 10 [.ref (A 0), .int a0] D (tyl C) (mw C A) X0 u sz (fun r u' => IM u' ∧ Un [(0, 0), (24, 24), (25, 25), (33, 33)] [(12, 12), (13, 13), (16, 16), (17, 17)] [] u u' ∧ (True)) := by
  refine mI (by decide) (Nat.le_of_ble_eq_true rfl) ?_
  intro p e s m below meth c ls ar Q hx hb hml hown hts hK hH hX hl hret
  have hown : s.vm.findClass RX10 = some m.cls := hown
  have hl : lv_has ls 2 [(0, .ref (A 0)), (1, .int a0)] := hl
  refine lv_aload_n hx hb dX10_round_0 rfl (lv_at hl 0 rfl) ?_
  refine lv_iconst (v := 0) hx hb dX10_round_1 (by decide) ?_
  refine r_put (j := 0) (ci := 10) (C := RX10) (T := TX10) (N := 42) hx hb hts (fun w h => uc_in w (inX10 w h)) tyX10 tyX10_ok nmX10 hown hK hH 0 (mwc0 C A u) rfl 0 (by decide) (hts _ (uc_in _ q_f1188)) (fun _ h9 => h9) rfl (by decide +kernel) (Nat.le_of_ble_eq_true rfl) (mws0 C A u _) dX10_round_2 (fun u1 eu1 H locs hH => ?_)
  have hI := hI.pi0 eu1 rfl
  refine lv_aload_n hx hb dX10_round_5 rfl (lv_at hl 0 rfl) ?_
  refine lv_iload_n hx hb dX10_round_6 rfl (lv_at hl 1 rfl) ?_
  refine lv_i2l (v := a0.toInt64) hx hb dX10_round_7 rfl ?_
  refine cvS (n := 1) (As := [.long a0.toInt64]) (rest := []) ⟨hx, hb, hml, hown, hts⟩ uc_in (kX10_isDay_0 l D C A u1 hI a0.toInt64 A0 (tt_i2l ha0)) q_m1473 q_n1475 q_p73 q_i11 q_c1476 hvX10_isDay ⟨(Nat.le_of_ble_eq_true rfl), (Nat.le_of_ble_eq_true rfl)⟩ ⟨(Nat.le_of_ble_eq_true rfl), (Nat.le_of_ble_eq_true rfl)⟩ hK hH.1 10 0 rfl (mwc0 C A u1) rfl hl.1 rfl (Nat.le_of_ble_eq_true rfl) dX10_round_8 (fun r2 p3 => ?_)
  rcases p3 with ⟨e9, f4, f5⟩ | e9
  · subst e9
    have b7 : 0 ≤ ((ga u1 7 0)).toInt ∧ ((ga u1 7 0)).toInt ≤ 7 := hI.has 0
    refine lv_if_ne (tgt := 17) hx hb dX10_round_11 (by decide) (fun c8 => ?_) (fun c8 => absurd c8 (by decide))
    refine lv_aload_n hx hb dX10_round_17 rfl (lv_at hl 0 rfl) ?_
    refine cvU (n := 0) (As := []) (rest := []) ⟨hx, hb, hml, hown, hts⟩ uc_in (kX10_lays_0 l D C A u1 hI  _) q_m1481 q_n1483 q_p75 q_i11 q_c1484 hvX10_lays ⟨(Nat.le_of_ble_eq_true rfl), (Nat.le_of_ble_eq_true rfl)⟩ ⟨(Nat.le_of_ble_eq_true rfl), (Nat.le_of_ble_eq_true rfl)⟩ hK hH (fun q h => Or.inr h) Bl0 (fun _ _ _ => trivial) 10 0 rfl (mwc0 C A u1) rfl hl.1 rfl (Nat.le_of_ble_eq_true rfl) dX10_round_18 (fun u9 H locs p11 hH => ?_)
    obtain ⟨hI, hUu9, p11⟩ := p11
    refine lv_aload_n hx hb dX10_round_21 rfl (lv_at hl 0 rfl) ?_
    refine lv_iload_n hx hb dX10_round_22 rfl (lv_at hl 1 rfl) ?_
    refine lv_aload_n hx hb dX10_round_23 rfl (lv_at hl 0 rfl) ?_
    refine va_get (ci := 10) (v := .ref (A 7)) (C := RX10) (T := TX10) (N := 42) hx hb hts (fun w h => uc_in w (inX10 w h)) hown hK hH.1 0 (mwc0 C A u9) rfl 17 (by decide) (hts _ (uc_in _ q_f1205)) (fun _ h9 => h9) rfl dX10_round_24 ?_
    refine lv_iconst (v := 1) hx hb dX10_round_27 (by decide) ?_
    refine va_iald hx hb hK hH.1 7 1 (mwc7 C A u9) rfl (i_ix (X := 1) (by decide) (by decide) (by decide)) dX10_round_28 ?_
    refine pv_i (v := (ga u9 7 1)) rfl ?_
    have b12 : 0 ≤ ((ga u9 7 1)).toInt ∧ ((ga u9 7 1)).toInt ≤ 9 := hI.has 1
    refine cvI (n := 2) (As := [.int a0, .int (ga u9 7 1)]) (rest := []) ⟨hx, hb, hml, hown, hts⟩ uc_in (kX10_roundOf_0 l D C A u9 hI a0 A0 ha0 (ga u9 7 1) (((ga u9 7 1)).toInt) rfl (by omega) (by omega) _) q_m1715 q_n1717 q_p96 q_i11 q_c1718 hvX10_roundOf ⟨(Nat.le_of_ble_eq_true rfl), (Nat.le_of_ble_eq_true rfl)⟩ ⟨(Nat.le_of_ble_eq_true rfl), (Nat.le_of_ble_eq_true rfl)⟩ hK hH (fun q h => Or.inr h) Bl0 (fun _ _ _ => trivial) 10 0 rfl (mwc0 C A u9) rfl hl.1 rfl (Nat.le_of_ble_eq_true rfl) dX10_round_29 (fun r14 u13 H locs p15 hH => ?_)
    obtain ⟨hI, hUu13, p15⟩ := p15
    exact hret _ _ _ _ r14 _ dX10_round_32 rfl ⟨hI, (Un.tr (Un.tr (Un.si Un.rf rfl eu1) hUu9 rfl rfl rfl) hUu13 rfl rfl rfl), trivial⟩ hH
  · subst e9
    refine lv_if_ne (tgt := 17) hx hb dX10_round_11 (by decide) (fun c16 => absurd c16 (by decide)) (fun c16 => ?_)
    refine lv_bipush (v := (-2)) hx hb dX10_round_14 (by decide) ?_
    exact hret _ _ _ _ ((-2) : Int32) _ dX10_round_16 rfl ⟨hI, (Un.si Un.rf rfl eu1), trivial⟩ hH
set_option maxHeartbeats 4000000 in
set_option maxRecDepth 100000 in
theorem kX10_rounds_0 (l : Launch) (D : va_G) (C : Nat → ClassId) (A : Nat → Nat) (u : St) (hI : IM u) (a0 : Int32) (A0 : Int) (ha0 : a0.toInt = A0) (a1 : Int32) (A1 : Int) (ha1 : a1.toInt = A1) (sz : Nat) : MetI l yX10_rounds cX10_rounds 3 (some .int) 10 [.ref (A 0), .int a0, .int a1] D (tyl C) (mw C A) X0 u sz (fun r u' => IM u' ∧ Un [(0, 0), (24, 24), (25, 25), (33, 33)] [(12, 12), (13, 13), (16, 16), (17, 17)] [] u u' ∧ (True)) := by
  refine mI (by decide) (Nat.le_of_ble_eq_true rfl) ?_
  intro p e s m below meth c ls ar Q hx hb hml hown hts hK hH hX hl hret
  have hown : s.vm.findClass RX10 = some m.cls := hown
  have hl : lv_has ls 3 [(0, .ref (A 0)), (1, .int a0), (2, .int a1)] := hl
  refine lv_aload_n hx hb dX10_rounds_0 rfl (lv_at hl 0 rfl) ?_
  refine lv_iconst (v := 0) hx hb dX10_rounds_1 (by decide) ?_
  refine r_put (j := 0) (ci := 10) (C := RX10) (T := TX10) (N := 42) hx hb hts (fun w h => uc_in w (inX10 w h)) tyX10 tyX10_ok nmX10 hown hK hH 0 (mwc0 C A u) rfl 0 (by decide) (hts _ (uc_in _ q_f1188)) (fun _ h9 => h9) rfl (by decide +kernel) (Nat.le_of_ble_eq_true rfl) (mws0 C A u _) dX10_rounds_2 (fun u1 eu1 H locs hH => ?_)
  have hI := hI.pi0 eu1 rfl
  refine lv_aload_n hx hb dX10_rounds_5 rfl (lv_at hl 0 rfl) ?_
  refine lv_iload_n hx hb dX10_rounds_6 rfl (lv_at hl 1 rfl) ?_
  refine lv_i2l (v := a0.toInt64) hx hb dX10_rounds_7 rfl ?_
  refine cvS (n := 1) (As := [.long a0.toInt64]) (rest := []) ⟨hx, hb, hml, hown, hts⟩ uc_in (kX10_isDay_0 l D C A u1 hI a0.toInt64 A0 (tt_i2l ha0)) q_m1473 q_n1475 q_p73 q_i11 q_c1476 hvX10_isDay ⟨(Nat.le_of_ble_eq_true rfl), (Nat.le_of_ble_eq_true rfl)⟩ ⟨(Nat.le_of_ble_eq_true rfl), (Nat.le_of_ble_eq_true rfl)⟩ hK hH.1 10 0 rfl (mwc0 C A u1) rfl hl.1 rfl (Nat.le_of_ble_eq_true rfl) dX10_rounds_8 (fun r2 p3 => ?_)
  rcases p3 with ⟨e9, f4, f5⟩ | e9
  · subst e9
    have b7 : 0 ≤ ((ga u1 7 0)).toInt ∧ ((ga u1 7 0)).toInt ≤ 7 := hI.has 0
    refine lv_if_ne (tgt := 17) hx hb dX10_rounds_11 (by decide) (fun c8 => ?_) (fun c8 => absurd c8 (by decide))
    refine lv_aload_n hx hb dX10_rounds_17 rfl (lv_at hl 0 rfl) ?_
    refine cvU (n := 0) (As := []) (rest := []) ⟨hx, hb, hml, hown, hts⟩ uc_in (kX10_lays_0 l D C A u1 hI  _) q_m1481 q_n1483 q_p75 q_i11 q_c1484 hvX10_lays ⟨(Nat.le_of_ble_eq_true rfl), (Nat.le_of_ble_eq_true rfl)⟩ ⟨(Nat.le_of_ble_eq_true rfl), (Nat.le_of_ble_eq_true rfl)⟩ hK hH (fun q h => Or.inr h) Bl0 (fun _ _ _ => trivial) 10 0 rfl (mwc0 C A u1) rfl hl.1 rfl (Nat.le_of_ble_eq_true rfl) dX10_rounds_18 (fun u9 H locs p11 hH => ?_)
    obtain ⟨hI, hUu9, p11⟩ := p11
    refine lv_aload_n hx hb dX10_rounds_21 rfl (lv_at hl 0 rfl) ?_
    refine lv_iload_n hx hb dX10_rounds_22 rfl (lv_at hl 1 rfl) ?_
    refine lv_aload_n hx hb dX10_rounds_23 rfl (lv_at hl 0 rfl) ?_
    refine va_get (ci := 10) (v := .ref (A 7)) (C := RX10) (T := TX10) (N := 42) hx hb hts (fun w h => uc_in w (inX10 w h)) hown hK hH.1 0 (mwc0 C A u9) rfl 17 (by decide) (hts _ (uc_in _ q_f1205)) (fun _ h9 => h9) rfl dX10_rounds_24 ?_
    refine lv_iconst (v := 1) hx hb dX10_rounds_27 (by decide) ?_
    refine va_iald hx hb hK hH.1 7 1 (mwc7 C A u9) rfl (i_ix (X := 1) (by decide) (by decide) (by decide)) dX10_rounds_28 ?_
    refine pv_i (v := (ga u9 7 1)) rfl ?_
    have b12 : 0 ≤ ((ga u9 7 1)).toInt ∧ ((ga u9 7 1)).toInt ≤ 9 := hI.has 1
    refine cvI (n := 2) (As := [.int a0, .int (ga u9 7 1)]) (rest := []) ⟨hx, hb, hml, hown, hts⟩ uc_in (kX10_roundOf_0 l D C A u9 hI a0 A0 ha0 (ga u9 7 1) (((ga u9 7 1)).toInt) rfl (by omega) (by omega) _) q_m1715 q_n1717 q_p96 q_i11 q_c1718 hvX10_roundOf ⟨(Nat.le_of_ble_eq_true rfl), (Nat.le_of_ble_eq_true rfl)⟩ ⟨(Nat.le_of_ble_eq_true rfl), (Nat.le_of_ble_eq_true rfl)⟩ hK hH (fun q h => Or.inr h) Bl0 (fun _ _ _ => trivial) 10 0 rfl (mwc0 C A u9) rfl hl.1 rfl (Nat.le_of_ble_eq_true rfl) dX10_rounds_29 (fun r14 u13 H locs p15 hH => ?_)
    obtain ⟨hI, hUu13, p15⟩ := p15
    refine lv_sipush (v := 10000) hx hb dX10_rounds_32 (by decide) ?_
    refine lv_icmp_eq (tgt := 58) hx hb dX10_rounds_35 (by decide) (fun c16 => ?_) (fun c16 => ?_)
    · have c16 := cEQ (x := r14) (y := 10000) (X := r14.toInt) (Y := 10000) rfl (by decide) c16
      refine lv_iconst (v := (-1)) hx hb dX10_rounds_58 (by decide) ?_
      refine lv_goto (tgt := 68) hx hb dX10_rounds_59 (by decide) ?_
      exact hret _ _ _ _ ((-1) : Int32) _ dX10_rounds_68 rfl ⟨hI, (Un.tr (Un.tr (Un.si Un.rf rfl eu1) hUu9 rfl rfl rfl) hUu13 rfl rfl rfl), trivial⟩ hH
    · refine lv_iload_n hx hb dX10_rounds_38 rfl (lv_at hl 2 rfl) ?_
      refine lv_i2l (v := a1.toInt64) hx hb dX10_rounds_39 rfl ?_
      refine lv_lconst (v := 0) hx hb dX10_rounds_40 (by decide) ?_
      refine lv_aload_n hx hb dX10_rounds_41 rfl (lv_at hl 0 rfl) ?_
      refine lv_iload_n hx hb dX10_rounds_42 rfl (lv_at hl 1 rfl) ?_
      refine cvS (n := 1) (As := [.int a0]) (rest := [.long 0, .long a1.toInt64]) ⟨hx, hb, hml, hown, hts⟩ uc_in (kX10_countsOf_0 l D C A u13 hI a0 A0 ha0 (by omega) (by omega)) q_m1500 q_n1502 q_p78 q_i11 q_c1503 hvX10_countsOf ⟨(Nat.le_of_ble_eq_true rfl), (Nat.le_of_ble_eq_true rfl)⟩ ⟨(Nat.le_of_ble_eq_true rfl), (Nat.le_of_ble_eq_true rfl)⟩ hK hH.1 10 0 rfl (mwc0 C A u13) rfl hl.1 rfl (Nat.le_of_ble_eq_true rfl) dX10_rounds_43 (fun r17 p18 => ?_)
      have g19 : (ga u13 7 3).toInt ≤ 6 := (hI.has 3).2
      have br17 : 0 ≤ r17.toInt ∧ r17.toInt ≤ 63 := ⟨p18.1, p18.2.1⟩
      refine csS (n := 1) (As := [.int r17]) (rest := [.long 0, .long a1.toInt64]) ⟨hx, hb, hml, hown, hts⟩ uc_in (kX10_sizeOf_0 l D C A u13 hI r17 r17.toInt rfl) q_m1582 q_s1583 q_i11 q_c1584 hvX10_sizeOf ⟨(Nat.le_of_ble_eq_true rfl), (Nat.le_of_ble_eq_true rfl)⟩ ⟨(Nat.le_of_ble_eq_true rfl), (Nat.le_of_ble_eq_true rfl)⟩ hK hH.1 rfl hl.1 rfl (Nat.le_of_ble_eq_true rfl) dX10_rounds_46 (fun r20 p21 => ?_)
      have p21 := p21 (by omega) (by omega)
      have br20 := pc_bd p21
      refine lv_iconst (v := 1) hx hb dX10_rounds_49 (by decide) ?_
      refine lv_isub hx hb dX10_rounds_50 ?_
      refine p_nm (tt_sub (X := r20.toInt) (Y := 1) rfl (by decide) (by omega) (by omega)) (fun z22 hz22 => ?_)
      refine lv_i2l (v := z22.toInt64) hx hb dX10_rounds_51 rfl ?_
      refine csS (n := 3) (As := [.long a1.toInt64, .long 0, .long z22.toInt64]) (rest := []) ⟨hx, hb, hml, hown, hts⟩ uc_in (kX10_in_0 l D C A u13 hI a1.toInt64 A1 (tt_i2l ha1) (0) 0 (by decide) z22.toInt64 (r20.toInt - 1) (tt_i2l hz22)) q_m1324 q_s1325 q_i11 q_c1326 hvX10_in ⟨(Nat.le_of_ble_eq_true rfl), (Nat.le_of_ble_eq_true rfl)⟩ ⟨(Nat.le_of_ble_eq_true rfl), (Nat.le_of_ble_eq_true rfl)⟩ hK hH.1 rfl hl.1 rfl (Nat.le_of_ble_eq_true rfl) dX10_rounds_52 (fun r23 p24 => ?_)
      rcases p24 with ⟨e9, f25, f26⟩ | ⟨e9, fn27⟩
      · subst e9
        refine lv_if_ne (tgt := 62) hx hb dX10_rounds_55 (by decide) (fun c28 => ?_) (fun c28 => absurd c28 (by decide))
        refine lv_aload_n hx hb dX10_rounds_62 rfl (lv_at hl 0 rfl) ?_
        refine va_get (ci := 10) (v := .ref (A 17)) (C := RX10) (T := TX10) (N := 42) hx hb hts (fun w h => uc_in w (inX10 w h)) hown hK hH.1 0 (mwc0 C A u13) rfl 32 (by decide) (hts _ (uc_in _ q_f1220)) (fun _ h9 => h9) rfl dX10_rounds_63 ?_
        refine lv_iload_n hx hb dX10_rounds_66 rfl (lv_at hl 2 rfl) ?_
        refine va_iald hx hb hK hH.1 17 1 (mwc17 C A u13) rfl (i_ix ha1 (by omega) (by omega)) dX10_rounds_67 ?_
        refine p_any (fun z29 => ?_)
        exact hret _ _ _ _ z29 _ dX10_rounds_68 rfl ⟨hI, (Un.tr (Un.tr (Un.si Un.rf rfl eu1) hUu9 rfl rfl rfl) hUu13 rfl rfl rfl), trivial⟩ hH
      · subst e9
        refine lv_if_ne (tgt := 62) hx hb dX10_rounds_55 (by decide) (fun c30 => absurd c30 (by decide)) (fun c30 => ?_)
        refine lv_iconst (v := (-1)) hx hb dX10_rounds_58 (by decide) ?_
        refine lv_goto (tgt := 68) hx hb dX10_rounds_59 (by decide) ?_
        exact hret _ _ _ _ ((-1) : Int32) _ dX10_rounds_68 rfl ⟨hI, (Un.tr (Un.tr (Un.si Un.rf rfl eu1) hUu9 rfl rfl rfl) hUu13 rfl rfl rfl), trivial⟩ hH
  · subst e9
    refine lv_if_ne (tgt := 17) hx hb dX10_rounds_11 (by decide) (fun c31 => absurd c31 (by decide)) (fun c31 => ?_)
    refine lv_bipush (v := (-2)) hx hb dX10_rounds_14 (by decide) ?_
    exact hret _ _ _ _ ((-2) : Int32) _ dX10_rounds_16 rfl ⟨hI, (Un.si Un.rf rfl eu1), trivial⟩ hH
set_option maxHeartbeats 4000000 in
set_option maxRecDepth 100000 in
theorem kX10_row_0 (l : Launch) (D : va_G) (C : Nat → ClassId) (A : Nat → Nat) (u : St) (hI : IM u) (a0 : Int32) (A0 : Int) (ha0 : a0.toInt = A0) (a1 : Int32) (A1 : Int) (ha1 : a1.toInt = A1) (a2 : Int32) (A2 : Int) (ha2 : a2.toInt = A2) (sz : Nat) : MetI l yX10_row cX10_row 5 (some .int) 3 [.ref (A 0), .int a0, .int a1, .int a2] D (tyl C) (mw C A) X0 u sz (fun r u' => IM u' ∧ Un [(0, 0)] [(1, 1), (2, 2)] [(3, 3)] u u' ∧ (((r = 0 ∧ ((0 ≤ A0 ∧ A0 ≤ 3) ∧ (0 ≤ A1 ∧ A1 ≤ 3) ∧ 0 ≤ A2 ∧ A2 ≤ 60)) ∨ (r = (-3) ∧ ((0 ≤ A0 ∧ A0 ≤ 3) ∧ (0 ≤ A1 ∧ A1 ≤ 3) ∧ A2 < 0)) ∨ (r = (-2) ∧ (¬ (0 ≤ A0 ∧ A0 ≤ 3) ∨ ¬ (0 ≤ A1 ∧ A1 ≤ 3) ∨ 60 < A2))) ∧ ((r = 0 ∧ ga u' 1 = upd (ga u 1) (Int32.toNatClampNeg a0) a1 ∧ ga u' 2 = upd (ga u 2) (Int32.toNatClampNeg a0) a2) ∨ (r ≠ 0 ∧ ga u' 1 = ga u 1 ∧ ga u' 2 = ga u 2)))) := by
  refine mI (by decide) (Nat.le_of_ble_eq_true rfl) ?_
  intro p e s m below meth c ls ar Q hx hb hml hown hts hK hH hX hl hret
  have hown : s.vm.findClass RX10 = some m.cls := hown
  have hl : lv_has ls 5 [(0, .ref (A 0)), (1, .int a0), (2, .int a1), (3, .int a2)] := hl
  refine lv_aload_n hx hb dX10_row_0 rfl (lv_at hl 0 rfl) ?_
  refine lv_iconst (v := 0) hx hb dX10_row_1 (by decide) ?_
  refine r_put (j := 0) (ci := 10) (C := RX10) (T := TX10) (N := 42) hx hb hts (fun w h => uc_in w (inX10 w h)) tyX10 tyX10_ok nmX10 hown hK hH 0 (mwc0 C A u) rfl 0 (by decide) (hts _ (uc_in _ q_f1188)) (fun _ h9 => h9) rfl (by decide +kernel) (Nat.le_of_ble_eq_true rfl) (mws0 C A u _) dX10_row_2 (fun u1 eu1 H locs hH => ?_)
  have hI := hI.pi0 eu1 rfl
  refine lv_iload_n hx hb dX10_row_5 rfl (lv_at hl 1 rfl) ?_
  refine csS (n := 1) (As := [.int a0]) (rest := []) ⟨hx, hb, hml, hown, hts⟩ uc_in (kX10_isSlot_0 l D C A u1 hI a0 A0 ha0) q_m1320 q_s1321 q_i11 q_c1322 hvX10_isSlot ⟨(Nat.le_of_ble_eq_true rfl), (Nat.le_of_ble_eq_true rfl)⟩ ⟨(Nat.le_of_ble_eq_true rfl), (Nat.le_of_ble_eq_true rfl)⟩ hK hH.1 rfl hl.1 rfl (Nat.le_of_ble_eq_true rfl) dX10_row_6 (fun r2 p3 => ?_)
  rcases p3 with ⟨e9, f4, f5⟩ | ⟨e9, fn6⟩
  · subst e9
    refine lv_if_eq (tgt := 30) hx hb dX10_row_9 (by decide) (fun c7 => absurd c7 (by decide)) (fun c7 => ?_)
    refine lv_iload_n hx hb dX10_row_12 rfl (lv_at hl 2 rfl) ?_
    refine lv_i2l (v := a1.toInt64) hx hb dX10_row_13 rfl ?_
    refine lv_lconst (v := 0) hx hb dX10_row_14 (by decide) ?_
    refine lv_ldc2 (v := 3) hx hb hown (hts _ (uc_in _ q_k1323)) dX10_row_15 ?_
    refine csS (n := 3) (As := [.long a1.toInt64, .long 0, .long 3]) (rest := []) ⟨hx, hb, hml, hown, hts⟩ uc_in (kX10_in_0 l D C A u1 hI a1.toInt64 A1 (tt_i2l ha1) (0) 0 (by decide) (3) 3 (by decide)) q_m1324 q_s1325 q_i11 q_c1326 hvX10_in ⟨(Nat.le_of_ble_eq_true rfl), (Nat.le_of_ble_eq_true rfl)⟩ ⟨(Nat.le_of_ble_eq_true rfl), (Nat.le_of_ble_eq_true rfl)⟩ hK hH.1 rfl hl.1 rfl (Nat.le_of_ble_eq_true rfl) dX10_row_18 (fun r8 p9 => ?_)
    rcases p9 with ⟨e9, f10, f11⟩ | ⟨e9, fn12⟩
    · subst e9
      refine lv_if_eq (tgt := 30) hx hb dX10_row_21 (by decide) (fun c13 => absurd c13 (by decide)) (fun c13 => ?_)
      refine lv_iload_n hx hb dX10_row_24 rfl (lv_at hl 3 rfl) ?_
      refine lv_bipush (v := 60) hx hb dX10_row_25 (by decide) ?_
      refine lv_icmp_le (tgt := 33) hx hb dX10_row_27 (by decide) (fun c14 => ?_) (fun c14 => ?_)
      · have c14 := cLE (x := a2) (y := 60) (X := A2) (Y := 60) ha2 (by decide) c14
        refine lv_iload_n hx hb dX10_row_33 rfl (lv_at hl 3 rfl) ?_
        refine lv_if_ge (tgt := 40) hx hb dX10_row_34 (by decide) (fun c15 => ?_) (fun c15 => ?_)
        · have c15 := cLE (x := 0) (y := a2) (X := 0) (Y := A2) (by decide) ha2 c15
          refine lv_aload_n hx hb dX10_row_40 rfl (lv_at hl 0 rfl) ?_
          refine va_get (ci := 10) (v := .ref (A 1)) (C := RX10) (T := TX10) (N := 42) hx hb hts (fun w h => uc_in w (inX10 w h)) hown hK hH.1 0 (mwc0 C A u1) rfl 1 (by decide) (hts _ (uc_in _ q_f1189)) (fun _ h9 => h9) rfl dX10_row_41 ?_
          refine lv_iload_n hx hb dX10_row_44 rfl (lv_at hl 1 rfl) ?_
          refine lv_iload_n hx hb dX10_row_45 rfl (lv_at hl 2 rfl) ?_
          refine r_iast (j := 1) hx hb hK hH 1 1 (mwc1 C A u1) rfl (i_ix ha0 (by omega) (by omega)) (mwa1 C A u1) dX10_row_46 (fun u16 eu16 H locs hH => ?_)
          have hI := hI.pa1 eu16 ha1 (by omega) (by omega)
          refine lv_aload_n hx hb dX10_row_47 rfl (lv_at hl 0 rfl) ?_
          refine va_get (ci := 10) (v := .ref (A 2)) (C := RX10) (T := TX10) (N := 42) hx hb hts (fun w h => uc_in w (inX10 w h)) hown hK hH.1 0 (mwc0 C A u16) rfl 2 (by decide) (hts _ (uc_in _ q_f1190)) (fun _ h9 => h9) rfl dX10_row_48 ?_
          refine lv_iload_n hx hb dX10_row_51 rfl (lv_at hl 1 rfl) ?_
          refine lv_iload_n hx hb dX10_row_52 rfl (lv_at hl 3 rfl) ?_
          refine r_iast (j := 2) hx hb hK hH 2 1 (mwc2 C A u16) rfl (i_ix ha0 (by omega) (by omega)) (mwa2 C A u16) dX10_row_53 (fun u17 eu17 H locs hH => ?_)
          have hI := hI.pa2 eu17 ha2 (by omega) (by omega)
          refine lv_iconst (v := 0) hx hb dX10_row_54 (by decide) ?_
          refine lv_istore (lv' := [(4, .int 0), (0, .ref (A 0)), (1, .int a0), (2, .int a1), (3, .int a2)]) hx hb dX10_row_55 hl (by decide) rfl (fun ls hl => ?_)
          have lp57_93 : ∀ (n57 : Nat) (ls : Array Slot) (y92d : Int32) (u93 : St) (H : Heap) (locs : List Loc), 0 ≤ y92d.toInt → y92d.toInt ≤ 60 → 60 - y92d.toInt < (n57 : Int) → Un [] [] [(3, 3)] u17 u93 → IM u93 → Hd D (mw C A) (va_A (mw C A u) s.heap.size) s.heap u93 H locs → lv_has ls 5 [(4, .int y92d), (0, .ref (A 0)), (1, .int a0), (3, .int a2)] → W p l e (rmL 3 0 0) s m ar below meth c H locs 0 0 Q (F0 m 57 ls []) := by
            intro n57
            induction n57 with
            | zero => intro ls y92d u93 H locs ly92d my92d hmun57 hUu93 hI hH hl; exfalso; omega
            | succ n57 ih57_93 =>
              intro ls y92d u93 H locs ly92d my92d hmun57 hUu93 hI hH hl
              refine lv_iload hx hb dX10_row_57 (lv_at hl 0 rfl) ?_
              refine lv_iload_n hx hb dX10_row_59 rfl (lv_at hl 3 rfl) ?_
              refine lv_icmp_ge (tgt := 82) hx hb dX10_row_60 (by decide) (fun c95 => ?_) (fun c95 => ?_)
              · have c95 := cLE (x := a2) (y := y92d) (X := A2) (Y := y92d.toInt) ha2 rfl c95
                refine lv_iconst (v := 0) hx hb dX10_row_82 (by decide) ?_
                exact hret _ _ _ _ (0 : Int32) _ dX10_row_83 rfl ⟨hI, (Un.tr (Un.sa (Un.sa (Un.si Un.rf rfl eu1) rfl eu16) rfl eu17) hUu93 rfl rfl rfl), ⟨(Or.inl (⟨rfl, by omega⟩)), Or.inl ⟨rfl, ((hUu93.2.1 1 rfl).trans ((ga_ne eu17 (by decide)).trans ((ga_sa eu16).trans (congrArg (fun f9 => upd f9 (Int32.toNatClampNeg a0) a1) ((ga_si eu1).trans rfl))))), ((hUu93.2.1 2 rfl).trans ((ga_sa eu17).trans (congrArg (fun f9 => upd f9 (Int32.toNatClampNeg a0) a2) ((ga_ne eu16 (by decide)).trans ((ga_si eu1).trans rfl)))))⟩⟩⟩ hH
              · have c95 := cNLE (x := a2) (y := y92d) (X := A2) (Y := y92d.toInt) ha2 rfl c95
                refine lv_aload_n hx hb dX10_row_63 rfl (lv_at hl 1 rfl) ?_
                refine va_get (ci := 10) (v := .ref (A 3)) (C := RX10) (T := TX10) (N := 42) hx hb hts (fun w h => uc_in w (inX10 w h)) hown hK hH.1 0 (mwc0 C A u93) rfl 3 (by decide) (hts _ (uc_in _ q_f1191)) (fun _ h9 => h9) rfl dX10_row_64 ?_
                refine lv_bipush (v := 60) hx hb dX10_row_67 (by decide) ?_
                refine lv_iload_n hx hb dX10_row_69 rfl (lv_at hl 2 rfl) ?_
                refine lv_imul hx hb dX10_row_70 ?_
                refine p_nm (tt_mul (X := 60) (Y := A0) (by decide) ha0 (by omega) (by omega)) (fun z96 hz96 => ?_)
                refine lv_iload hx hb dX10_row_71 (lv_at hl 0 rfl) ?_
                refine lv_iadd hx hb dX10_row_73 ?_
                refine p_nm (tt_add (X := (60 * A0)) (Y := y92d.toInt) hz96 rfl (by omega) (by omega)) (fun z97 hz97 => ?_)
                refine lv_lconst (v := 0) hx hb dX10_row_74 (by decide) ?_
                refine r_last (j := 3) hx hb hK hH 3 2 (mwc3 C A u93) rfl (i_ix hz97 (by omega) (by omega)) (mwb3 C A u93) dX10_row_75 (fun u98 eu98 H locs hH => ?_)
                have hI := hI.pb_ eu98
                obtain ⟨z99, ez99⟩ : ∃ z, z = y92d + Int32.ofInt 1 := ⟨_, rfl⟩
                have hz99 : z99.toInt = y92d.toInt + 1 := by rw [ez99]; exact tt_add rfl (by decide) (by omega) (by omega)
                refine lv_iinc (v := z99) (lv' := [(4, .int z99), (0, .ref (A 0)), (1, .int a0), (3, .int a2)]) hx hb dX10_row_76 hl (k := 0) rfl ez99.symm (by decide) rfl (fun ls hl => ?_)
                refine lv_goto (tgt := 57) hx hb dX10_row_79 (by decide) ?_
                exact ih57_93 ls z99 u98 _ _ (by have q9 := (show z99.toInt = (y92d.toInt + 1) from hz99); omega) (by have q9 := (show z99.toInt = (y92d.toInt + 1) from hz99); omega) (by have q9 := (show z99.toInt = (y92d.toInt + 1) from hz99); omega) (Un.sb hUu93 rfl eu98) hI hH hl
          exact lp57_93 61 ls 0 u17 _ _ (by decide) (by decide) (by have q9 : (0 : Int32).toInt = 0 := (by decide); omega) Un.rf hI hH (lv_sub hl [0, 1, 2, 4] rfl)
        · have c15 := cNLE (x := 0) (y := a2) (X := 0) (Y := A2) (by decide) ha2 c15
          refine lv_bipush (v := (-3)) hx hb dX10_row_37 (by decide) ?_
          exact hret _ _ _ _ ((-3) : Int32) _ dX10_row_39 rfl ⟨hI, (Un.si Un.rf rfl eu1), ⟨(Or.inr (Or.inl (⟨rfl, by omega⟩))), Or.inr ⟨by decide, ((ga_si eu1).trans rfl), ((ga_si eu1).trans rfl)⟩⟩⟩ hH
      · have c14 := cNLE (x := a2) (y := 60) (X := A2) (Y := 60) ha2 (by decide) c14
        refine lv_bipush (v := (-2)) hx hb dX10_row_30 (by decide) ?_
        exact hret _ _ _ _ ((-2) : Int32) _ dX10_row_32 rfl ⟨hI, (Un.si Un.rf rfl eu1), ⟨(Or.inr (Or.inr (⟨rfl, by omega⟩))), Or.inr ⟨by decide, ((ga_si eu1).trans rfl), ((ga_si eu1).trans rfl)⟩⟩⟩ hH
    · subst e9
      refine lv_if_eq (tgt := 30) hx hb dX10_row_21 (by decide) (fun c100 => ?_) (fun c100 => absurd c100 (by decide))
      refine lv_bipush (v := (-2)) hx hb dX10_row_30 (by decide) ?_
      exact hret _ _ _ _ ((-2) : Int32) _ dX10_row_32 rfl ⟨hI, (Un.si Un.rf rfl eu1), ⟨(Or.inr (Or.inr (⟨rfl, by omega⟩))), Or.inr ⟨by decide, ((ga_si eu1).trans rfl), ((ga_si eu1).trans rfl)⟩⟩⟩ hH
  · subst e9
    refine lv_if_eq (tgt := 30) hx hb dX10_row_9 (by decide) (fun c101 => ?_) (fun c101 => absurd c101 (by decide))
    refine lv_bipush (v := (-2)) hx hb dX10_row_30 (by decide) ?_
    exact hret _ _ _ _ ((-2) : Int32) _ dX10_row_32 rfl ⟨hI, (Un.si Un.rf rfl eu1), ⟨(Or.inr (Or.inr (⟨rfl, by omega⟩))), Or.inr ⟨by decide, ((ga_si eu1).trans rfl), ((ga_si eu1).trans rfl)⟩⟩⟩ hH
set_option maxHeartbeats 4000000 in
set_option maxRecDepth 100000 in
theorem kX10_slack_0 (l : Launch) (D : va_G) (C : Nat → ClassId) (A : Nat → Nat) (u : St) (hI : IM u) (a0 : Int32) (A0 : Int) (ha0 : a0.toInt = A0) (a1 : Int32) (A1 : Int) (ha1 : a1.toInt = A1) (sz : Nat) : MetI l yX10_slack cX10_slack 5 (some .int) 5 [.ref (A 0), .int a0, .int a1] D (tyl C) (mw C A) X0 u sz (fun r u' => IM u' ∧ Un [(0, 0), (24, 24), (25, 25)] [(12, 12), (13, 13)] [] u u' ∧ (True)) := by
  refine mI (by decide) (Nat.le_of_ble_eq_true rfl) ?_
  intro p e s m below meth c ls ar Q hx hb hml hown hts hK hH hX hl hret
  have hown : s.vm.findClass RX10 = some m.cls := hown
  have hl : lv_has ls 5 [(0, .ref (A 0)), (1, .int a0), (2, .int a1)] := hl
  refine lv_aload_n hx hb dX10_slack_0 rfl (lv_at hl 0 rfl) ?_
  refine lv_iconst (v := 0) hx hb dX10_slack_1 (by decide) ?_
  refine r_put (j := 0) (ci := 10) (C := RX10) (T := TX10) (N := 42) hx hb hts (fun w h => uc_in w (inX10 w h)) tyX10 tyX10_ok nmX10 hown hK hH 0 (mwc0 C A u) rfl 0 (by decide) (hts _ (uc_in _ q_f1188)) (fun _ h9 => h9) rfl (by decide +kernel) (Nat.le_of_ble_eq_true rfl) (mws0 C A u _) dX10_slack_2 (fun u1 eu1 H locs hH => ?_)
  have hI := hI.pi0 eu1 rfl
  refine lv_aload_n hx hb dX10_slack_5 rfl (lv_at hl 0 rfl) ?_
  refine lv_iload_n hx hb dX10_slack_6 rfl (lv_at hl 1 rfl) ?_
  refine lv_i2l (v := a0.toInt64) hx hb dX10_slack_7 rfl ?_
  refine cvS (n := 1) (As := [.long a0.toInt64]) (rest := []) ⟨hx, hb, hml, hown, hts⟩ uc_in (kX10_isClock_0 l D C A u1 hI a0.toInt64 A0 (tt_i2l ha0)) q_m1460 q_n1462 q_p71 q_i11 q_c1463 hvX10_isClock ⟨(Nat.le_of_ble_eq_true rfl), (Nat.le_of_ble_eq_true rfl)⟩ ⟨(Nat.le_of_ble_eq_true rfl), (Nat.le_of_ble_eq_true rfl)⟩ hK hH.1 10 0 rfl (mwc0 C A u1) rfl hl.1 rfl (Nat.le_of_ble_eq_true rfl) dX10_slack_8 (fun r2 p3 => ?_)
  rcases p3 with ⟨e9, f4, f5⟩ | e9
  · subst e9
    have b7 : 0 ≤ ((ga u1 7 3)).toInt ∧ ((ga u1 7 3)).toInt ≤ 6 := hI.has 3
    refine lv_if_eq (tgt := 23) hx hb dX10_slack_11 (by decide) (fun c8 => absurd c8 (by decide)) (fun c8 => ?_)
    refine lv_aload_n hx hb dX10_slack_14 rfl (lv_at hl 0 rfl) ?_
    refine lv_iload_n hx hb dX10_slack_15 rfl (lv_at hl 2 rfl) ?_
    refine lv_i2l (v := a1.toInt64) hx hb dX10_slack_16 rfl ?_
    refine cvS (n := 1) (As := [.long a1.toInt64]) (rest := []) ⟨hx, hb, hml, hown, hts⟩ uc_in (kX10_isDay_0 l D C A u1 hI a1.toInt64 A1 (tt_i2l ha1)) q_m1473 q_n1475 q_p73 q_i11 q_c1476 hvX10_isDay ⟨(Nat.le_of_ble_eq_true rfl), (Nat.le_of_ble_eq_true rfl)⟩ ⟨(Nat.le_of_ble_eq_true rfl), (Nat.le_of_ble_eq_true rfl)⟩ hK hH.1 10 0 rfl (mwc0 C A u1) rfl hl.1 rfl (Nat.le_of_ble_eq_true rfl) dX10_slack_17 (fun r9 p10 => ?_)
    rcases p10 with ⟨e9, f11, f12⟩ | e9
    · subst e9
      have b14 : 0 ≤ ((ga u1 7 0)).toInt ∧ ((ga u1 7 0)).toInt ≤ 7 := hI.has 0
      refine lv_if_ne (tgt := 26) hx hb dX10_slack_20 (by decide) (fun c15 => ?_) (fun c15 => absurd c15 (by decide))
      refine lv_aload_n hx hb dX10_slack_26 rfl (lv_at hl 0 rfl) ?_
      refine cvU (n := 0) (As := []) (rest := []) ⟨hx, hb, hml, hown, hts⟩ uc_in (kX10_lays_0 l D C A u1 hI  _) q_m1481 q_n1483 q_p75 q_i11 q_c1484 hvX10_lays ⟨(Nat.le_of_ble_eq_true rfl), (Nat.le_of_ble_eq_true rfl)⟩ ⟨(Nat.le_of_ble_eq_true rfl), (Nat.le_of_ble_eq_true rfl)⟩ hK hH (fun q h => Or.inr h) Bl0 (fun _ _ _ => trivial) 10 0 rfl (mwc0 C A u1) rfl hl.1 rfl (Nat.le_of_ble_eq_true rfl) dX10_slack_27 (fun u16 H locs p18 hH => ?_)
      obtain ⟨hI, hUu16, p18⟩ := p18
      refine lv_aload_n hx hb dX10_slack_30 rfl (lv_at hl 0 rfl) ?_
      refine lv_iload_n hx hb dX10_slack_31 rfl (lv_at hl 2 rfl) ?_
      refine cvS (n := 1) (As := [.int a1]) (rest := []) ⟨hx, hb, hml, hown, hts⟩ uc_in (kX10_noonOf__0 l D C A u16 hI a1 A1 ha1 (by omega) (by omega)) q_m1496 q_n1498 q_p77 q_i11 q_c1499 hvX10_noonOf_ ⟨(Nat.le_of_ble_eq_true rfl), (Nat.le_of_ble_eq_true rfl)⟩ ⟨(Nat.le_of_ble_eq_true rfl), (Nat.le_of_ble_eq_true rfl)⟩ hK hH.1 10 0 rfl (mwc0 C A u16) rfl hl.1 rfl (Nat.le_of_ble_eq_true rfl) dX10_slack_32 (fun r19 p20 => ?_)
      refine lv_istore_n (lv' := [(3, .int r19), (0, .ref (A 0)), (1, .int a0), (2, .int a1)]) hx hb dX10_slack_35 rfl hl (by decide) rfl (fun ls hl => ?_)
      refine lv_iload_n hx hb dX10_slack_36 rfl (lv_at hl 0 rfl) ?_
      refine lv_aload_n hx hb dX10_slack_37 rfl (lv_at hl 1 rfl) ?_
      refine va_get (ci := 10) (v := .ref (A 12)) (C := RX10) (T := TX10) (N := 42) hx hb hts (fun w h => uc_in w (inX10 w h)) hown hK hH.1 0 (mwc0 C A u16) rfl 22 (by decide) (hts _ (uc_in _ q_f1210)) (fun _ h9 => h9) rfl dX10_slack_38 ?_
      refine lv_bipush (v := 6) hx hb dX10_slack_41 (by decide) ?_
      refine lv_iload_n hx hb dX10_slack_43 rfl (lv_at hl 3 rfl) ?_
      refine lv_imul hx hb dX10_slack_44 ?_
      refine p_nm (tt_mul (X := 6) (Y := A1) (by decide) ha1 (by omega) (by omega)) (fun z21 hz21 => ?_)
      refine lv_iload_n hx hb dX10_slack_45 rfl (lv_at hl 2 rfl) ?_
      refine lv_iadd hx hb dX10_slack_46 ?_
      refine p_nm (tt_add (X := (6 * A1)) (Y := A0) hz21 ha0 (by omega) (by omega)) (fun z22 hz22 => ?_)
      refine va_iald hx hb hK hH.1 12 1 (mwc12 C A u16) rfl (i_ix hz22 (by omega) (by omega)) dX10_slack_47 ?_
      refine p_any (fun z23 => ?_)
      refine lv_isub hx hb dX10_slack_48 ?_
      refine p_any (fun z24 => ?_)
      refine lv_istore (lv' := [(4, .int z24), (3, .int r19), (0, .ref (A 0)), (1, .int a0), (2, .int a1)]) hx hb dX10_slack_49 hl (by decide) rfl (fun ls hl => ?_)
      refine lv_iload_n hx hb dX10_slack_51 rfl (lv_at hl 1 rfl) ?_
      refine lv_sipush (v := 10000) hx hb dX10_slack_52 (by decide) ?_
      refine lv_icmp_ne (tgt := 64) hx hb dX10_slack_55 (by decide) (fun c25 => ?_) (fun c25 => ?_)
      · refine lv_iload hx hb dX10_slack_64 (lv_at hl 0 rfl) ?_
        refine lv_if_ge (tgt := 73) hx hb dX10_slack_66 (by decide) (fun c26 => ?_) (fun c26 => ?_)
        · have c26 := cLE (x := 0) (y := z24) (X := 0) (Y := z24.toInt) (by decide) rfl c26
          refine lv_iload hx hb dX10_slack_73 (lv_at hl 0 rfl) ?_
          exact hret _ _ _ _ z24 _ dX10_slack_75 rfl ⟨hI, (Un.tr (Un.si Un.rf rfl eu1) hUu16 rfl rfl rfl), trivial⟩ hH
        · have c26 := cNLE (x := 0) (y := z24) (X := 0) (Y := z24.toInt) (by decide) rfl c26
          refine lv_iconst (v := 0) hx hb dX10_slack_69 (by decide) ?_
          refine lv_goto (tgt := 75) hx hb dX10_slack_70 (by decide) ?_
          exact hret _ _ _ _ (0 : Int32) _ dX10_slack_75 rfl ⟨hI, (Un.tr (Un.si Un.rf rfl eu1) hUu16 rfl rfl rfl), trivial⟩ hH
      · have c25 := cEQ (x := r19) (y := 10000) (X := r19.toInt) (Y := 10000) rfl (by decide) c25
        refine lv_sipush (v := 10000) hx hb dX10_slack_58 (by decide) ?_
        refine lv_goto (tgt := 75) hx hb dX10_slack_61 (by decide) ?_
        exact hret _ _ _ _ (10000 : Int32) _ dX10_slack_75 rfl ⟨hI, (Un.tr (Un.si Un.rf rfl eu1) hUu16 rfl rfl rfl), trivial⟩ hH
    · subst e9
      refine lv_if_ne (tgt := 26) hx hb dX10_slack_20 (by decide) (fun c27 => absurd c27 (by decide)) (fun c27 => ?_)
      refine lv_bipush (v := (-2)) hx hb dX10_slack_23 (by decide) ?_
      exact hret _ _ _ _ ((-2) : Int32) _ dX10_slack_25 rfl ⟨hI, (Un.si Un.rf rfl eu1), trivial⟩ hH
  · subst e9
    refine lv_if_eq (tgt := 23) hx hb dX10_slack_11 (by decide) (fun c28 => ?_) (fun c28 => absurd c28 (by decide))
    refine lv_bipush (v := (-2)) hx hb dX10_slack_23 (by decide) ?_
    exact hret _ _ _ _ ((-2) : Int32) _ dX10_slack_25 rfl ⟨hI, (Un.si Un.rf rfl eu1), trivial⟩ hH
set_option maxHeartbeats 4000000 in
set_option maxRecDepth 100000 in
theorem kX10_slowest_0 (l : Launch) (D : va_G) (C : Nat → ClassId) (A : Nat → Nat) (u : St) (hI : IM u) (a0 : Int32) (A0 : Int) (ha0 : a0.toInt = A0) (sz : Nat) : MetI l yX10_slowest cX10_slowest 2 (some .int) 4 [.ref (A 0), .int a0] D (tyl C) (mw C A) X0 u sz (fun r u' => IM u' ∧ Un [(0, 0), (24, 24), (25, 25)] [(12, 12), (13, 13)] [] u u' ∧ ((-2) ≤ r.toInt ∧ r.toInt ≤ 5)) := by
  refine mI (by decide) (Nat.le_of_ble_eq_true rfl) ?_
  intro p e s m below meth c ls ar Q hx hb hml hown hts hK hH hX hl hret
  have hown : s.vm.findClass RX10 = some m.cls := hown
  have hl : lv_has ls 2 [(0, .ref (A 0)), (1, .int a0)] := hl
  refine lv_aload_n hx hb dX10_slowest_0 rfl (lv_at hl 0 rfl) ?_
  refine lv_iconst (v := 0) hx hb dX10_slowest_1 (by decide) ?_
  refine r_put (j := 0) (ci := 10) (C := RX10) (T := TX10) (N := 42) hx hb hts (fun w h => uc_in w (inX10 w h)) tyX10 tyX10_ok nmX10 hown hK hH 0 (mwc0 C A u) rfl 0 (by decide) (hts _ (uc_in _ q_f1188)) (fun _ h9 => h9) rfl (by decide +kernel) (Nat.le_of_ble_eq_true rfl) (mws0 C A u _) dX10_slowest_2 (fun u1 eu1 H locs hH => ?_)
  have hI := hI.pi0 eu1 rfl
  refine lv_aload_n hx hb dX10_slowest_5 rfl (lv_at hl 0 rfl) ?_
  refine lv_iload_n hx hb dX10_slowest_6 rfl (lv_at hl 1 rfl) ?_
  refine lv_i2l (v := a0.toInt64) hx hb dX10_slowest_7 rfl ?_
  refine cvS (n := 1) (As := [.long a0.toInt64]) (rest := []) ⟨hx, hb, hml, hown, hts⟩ uc_in (kX10_isDay_0 l D C A u1 hI a0.toInt64 A0 (tt_i2l ha0)) q_m1473 q_n1475 q_p73 q_i11 q_c1476 hvX10_isDay ⟨(Nat.le_of_ble_eq_true rfl), (Nat.le_of_ble_eq_true rfl)⟩ ⟨(Nat.le_of_ble_eq_true rfl), (Nat.le_of_ble_eq_true rfl)⟩ hK hH.1 10 0 rfl (mwc0 C A u1) rfl hl.1 rfl (Nat.le_of_ble_eq_true rfl) dX10_slowest_8 (fun r2 p3 => ?_)
  rcases p3 with ⟨e9, f4, f5⟩ | e9
  · subst e9
    have b7 : 0 ≤ ((ga u1 7 0)).toInt ∧ ((ga u1 7 0)).toInt ≤ 7 := hI.has 0
    refine lv_if_ne (tgt := 17) hx hb dX10_slowest_11 (by decide) (fun c8 => ?_) (fun c8 => absurd c8 (by decide))
    refine lv_aload_n hx hb dX10_slowest_17 rfl (lv_at hl 0 rfl) ?_
    refine cvU (n := 0) (As := []) (rest := []) ⟨hx, hb, hml, hown, hts⟩ uc_in (kX10_lays_0 l D C A u1 hI  _) q_m1481 q_n1483 q_p75 q_i11 q_c1484 hvX10_lays ⟨(Nat.le_of_ble_eq_true rfl), (Nat.le_of_ble_eq_true rfl)⟩ ⟨(Nat.le_of_ble_eq_true rfl), (Nat.le_of_ble_eq_true rfl)⟩ hK hH (fun q h => Or.inr h) Bl0 (fun _ _ _ => trivial) 10 0 rfl (mwc0 C A u1) rfl hl.1 rfl (Nat.le_of_ble_eq_true rfl) dX10_slowest_18 (fun u9 H locs p11 hH => ?_)
    obtain ⟨hI, hUu9, p11⟩ := p11
    refine lv_aload_n hx hb dX10_slowest_21 rfl (lv_at hl 0 rfl) ?_
    refine lv_iload_n hx hb dX10_slowest_22 rfl (lv_at hl 1 rfl) ?_
    refine lv_aload_n hx hb dX10_slowest_23 rfl (lv_at hl 0 rfl) ?_
    refine lv_iload_n hx hb dX10_slowest_24 rfl (lv_at hl 1 rfl) ?_
    refine cvS (n := 1) (As := [.int a0]) (rest := [.int a0, .ref (A 0)]) ⟨hx, hb, hml, hown, hts⟩ uc_in (kX10_countsOf_0 l D C A u9 hI a0 A0 ha0 (by omega) (by omega)) q_m1500 q_n1502 q_p78 q_i11 q_c1503 hvX10_countsOf ⟨(Nat.le_of_ble_eq_true rfl), (Nat.le_of_ble_eq_true rfl)⟩ ⟨(Nat.le_of_ble_eq_true rfl), (Nat.le_of_ble_eq_true rfl)⟩ hK hH.1 10 0 rfl (mwc0 C A u9) rfl hl.1 rfl (Nat.le_of_ble_eq_true rfl) dX10_slowest_25 (fun r12 p13 => ?_)
    have g14 : (ga u9 7 3).toInt ≤ 6 := (hI.has 3).2
    have br12 : 0 ≤ r12.toInt ∧ r12.toInt ≤ 63 := ⟨p13.1, p13.2.1⟩
    refine cvS (n := 2) (As := [.int a0, .int r12]) (rest := []) ⟨hx, hb, hml, hown, hts⟩ uc_in (kX10_lastOf_0 l D C A u9 hI a0 A0 ha0 r12 r12.toInt rfl (by omega) (by omega)) q_m1508 q_n1510 q_p80 q_i11 q_c1511 hvX10_lastOf ⟨(Nat.le_of_ble_eq_true rfl), (Nat.le_of_ble_eq_true rfl)⟩ ⟨(Nat.le_of_ble_eq_true rfl), (Nat.le_of_ble_eq_true rfl)⟩ hK hH.1 10 0 rfl (mwc0 C A u9) rfl hl.1 rfl (Nat.le_of_ble_eq_true rfl) dX10_slowest_28 (fun r15 p16 => ?_)
    have br15 : -1 ≤ r15.toInt ∧ r15.toInt ≤ 5 := ⟨p16.1, p16.2.1⟩
    exact hret _ _ _ _ r15 _ dX10_slowest_31 rfl ⟨hI, (Un.tr (Un.si Un.rf rfl eu1) hUu9 rfl rfl rfl), ⟨by omega, by omega⟩⟩ hH
  · subst e9
    refine lv_if_ne (tgt := 17) hx hb dX10_slowest_11 (by decide) (fun c17 => absurd c17 (by decide)) (fun c17 => ?_)
    refine lv_bipush (v := (-2)) hx hb dX10_slowest_14 (by decide) ?_
    exact hret _ _ _ _ ((-2) : Int32) _ dX10_slowest_16 rfl ⟨hI, (Un.si Un.rf rfl eu1), ⟨by decide, by decide⟩⟩ hH
set_option maxHeartbeats 4000000 in
set_option maxRecDepth 100000 in
theorem kX10_spread_0 (l : Launch) (D : va_G) (C : Nat → ClassId) (A : Nat → Nat) (u : St) (hI : IM u) (a0 : Int32) (A0 : Int) (ha0 : a0.toInt = A0) (sz : Nat) : MetI l yX10_spread cX10_spread 4 (some .int) 5 [.ref (A 0), .int a0] D (tyl C) (mw C A) X0 u sz (fun r u' => IM u' ∧ Un [(0, 0), (24, 24), (25, 25)] [(12, 12), (13, 13)] [] u u' ∧ (True)) := by
  refine mI (by decide) (Nat.le_of_ble_eq_true rfl) ?_
  intro p e s m below meth c ls ar Q hx hb hml hown hts hK hH hX hl hret
  have hown : s.vm.findClass RX10 = some m.cls := hown
  have hl : lv_has ls 4 [(0, .ref (A 0)), (1, .int a0)] := hl
  refine lv_aload_n hx hb dX10_spread_0 rfl (lv_at hl 0 rfl) ?_
  refine lv_iconst (v := 0) hx hb dX10_spread_1 (by decide) ?_
  refine r_put (j := 0) (ci := 10) (C := RX10) (T := TX10) (N := 42) hx hb hts (fun w h => uc_in w (inX10 w h)) tyX10 tyX10_ok nmX10 hown hK hH 0 (mwc0 C A u) rfl 0 (by decide) (hts _ (uc_in _ q_f1188)) (fun _ h9 => h9) rfl (by decide +kernel) (Nat.le_of_ble_eq_true rfl) (mws0 C A u _) dX10_spread_2 (fun u1 eu1 H locs hH => ?_)
  have hI := hI.pi0 eu1 rfl
  refine lv_aload_n hx hb dX10_spread_5 rfl (lv_at hl 0 rfl) ?_
  refine lv_iload_n hx hb dX10_spread_6 rfl (lv_at hl 1 rfl) ?_
  refine lv_i2l (v := a0.toInt64) hx hb dX10_spread_7 rfl ?_
  refine cvS (n := 1) (As := [.long a0.toInt64]) (rest := []) ⟨hx, hb, hml, hown, hts⟩ uc_in (kX10_isDay_0 l D C A u1 hI a0.toInt64 A0 (tt_i2l ha0)) q_m1473 q_n1475 q_p73 q_i11 q_c1476 hvX10_isDay ⟨(Nat.le_of_ble_eq_true rfl), (Nat.le_of_ble_eq_true rfl)⟩ ⟨(Nat.le_of_ble_eq_true rfl), (Nat.le_of_ble_eq_true rfl)⟩ hK hH.1 10 0 rfl (mwc0 C A u1) rfl hl.1 rfl (Nat.le_of_ble_eq_true rfl) dX10_spread_8 (fun r2 p3 => ?_)
  rcases p3 with ⟨e9, f4, f5⟩ | e9
  · subst e9
    have b7 : 0 ≤ ((ga u1 7 0)).toInt ∧ ((ga u1 7 0)).toInt ≤ 7 := hI.has 0
    refine lv_if_ne (tgt := 17) hx hb dX10_spread_11 (by decide) (fun c8 => ?_) (fun c8 => absurd c8 (by decide))
    refine lv_aload_n hx hb dX10_spread_17 rfl (lv_at hl 0 rfl) ?_
    refine cvU (n := 0) (As := []) (rest := []) ⟨hx, hb, hml, hown, hts⟩ uc_in (kX10_lays_0 l D C A u1 hI  _) q_m1481 q_n1483 q_p75 q_i11 q_c1484 hvX10_lays ⟨(Nat.le_of_ble_eq_true rfl), (Nat.le_of_ble_eq_true rfl)⟩ ⟨(Nat.le_of_ble_eq_true rfl), (Nat.le_of_ble_eq_true rfl)⟩ hK hH (fun q h => Or.inr h) Bl0 (fun _ _ _ => trivial) 10 0 rfl (mwc0 C A u1) rfl hl.1 rfl (Nat.le_of_ble_eq_true rfl) dX10_spread_18 (fun u9 H locs p11 hH => ?_)
    obtain ⟨hI, hUu9, p11⟩ := p11
    refine lv_aload_n hx hb dX10_spread_21 rfl (lv_at hl 0 rfl) ?_
    refine lv_iload_n hx hb dX10_spread_22 rfl (lv_at hl 1 rfl) ?_
    refine lv_iconst (v := 0) hx hb dX10_spread_23 (by decide) ?_
    refine cvS (n := 2) (As := [.int a0, .int 0]) (rest := []) ⟨hx, hb, hml, hown, hts⟩ uc_in (kX10_orderOf_0 l D C A u9 hI a0 A0 ha0 (0) 0 (by decide) (by omega) (by omega)) q_m1524 q_n1526 q_p81 q_i11 q_c1527 hvX10_orderOf ⟨(Nat.le_of_ble_eq_true rfl), (Nat.le_of_ble_eq_true rfl)⟩ ⟨(Nat.le_of_ble_eq_true rfl), (Nat.le_of_ble_eq_true rfl)⟩ hK hH.1 10 0 rfl (mwc0 C A u9) rfl hl.1 rfl (Nat.le_of_ble_eq_true rfl) dX10_spread_24 (fun r12 p13 => ?_)
    have br12 := p13.1
    refine lv_istore_n (lv' := [(2, .int r12), (0, .ref (A 0)), (1, .int a0)]) hx hb dX10_spread_27 rfl hl (by decide) rfl (fun ls hl => ?_)
    refine lv_iload_n hx hb dX10_spread_28 rfl (lv_at hl 0 rfl) ?_
    refine lv_iconst (v := (-1)) hx hb dX10_spread_29 (by decide) ?_
    refine lv_icmp_ne (tgt := 35) hx hb dX10_spread_30 (by decide) (fun c14 => ?_) (fun c14 => ?_)
    · have c14 := cNE (x := r12) (y := (-1)) (X := r12.toInt) (Y := (-1)) rfl (by decide) c14
      refine lv_aload_n hx hb dX10_spread_35 rfl (lv_at hl 1 rfl) ?_
      refine lv_iload_n hx hb dX10_spread_36 rfl (lv_at hl 2 rfl) ?_
      refine cvS (n := 1) (As := [.int a0]) (rest := []) ⟨hx, hb, hml, hown, hts⟩ uc_in (kX10_noonOf__0 l D C A u9 hI a0 A0 ha0 (by omega) (by omega)) q_m1496 q_n1498 q_p77 q_i11 q_c1499 hvX10_noonOf_ ⟨(Nat.le_of_ble_eq_true rfl), (Nat.le_of_ble_eq_true rfl)⟩ ⟨(Nat.le_of_ble_eq_true rfl), (Nat.le_of_ble_eq_true rfl)⟩ hK hH.1 10 0 rfl (mwc0 C A u9) rfl hl.1 rfl (Nat.le_of_ble_eq_true rfl) dX10_spread_37 (fun r15 p16 => ?_)
      refine lv_istore_n (lv' := [(3, .int r15), (2, .int r12), (0, .ref (A 0)), (1, .int a0)]) hx hb dX10_spread_40 rfl hl (by decide) rfl (fun ls hl => ?_)
      refine lv_iload_n hx hb dX10_spread_41 rfl (lv_at hl 0 rfl) ?_
      refine lv_sipush (v := 10000) hx hb dX10_spread_42 (by decide) ?_
      refine lv_icmp_ne (tgt := 54) hx hb dX10_spread_45 (by decide) (fun c17 => ?_) (fun c17 => ?_)
      · refine lv_iload_n hx hb dX10_spread_54 rfl (lv_at hl 0 rfl) ?_
        refine lv_aload_n hx hb dX10_spread_55 rfl (lv_at hl 2 rfl) ?_
        refine va_get (ci := 10) (v := .ref (A 12)) (C := RX10) (T := TX10) (N := 42) hx hb hts (fun w h => uc_in w (inX10 w h)) hown hK hH.1 0 (mwc0 C A u9) rfl 22 (by decide) (hts _ (uc_in _ q_f1210)) (fun _ h9 => h9) rfl dX10_spread_56 ?_
        refine lv_bipush (v := 6) hx hb dX10_spread_59 (by decide) ?_
        refine lv_iload_n hx hb dX10_spread_61 rfl (lv_at hl 3 rfl) ?_
        refine lv_imul hx hb dX10_spread_62 ?_
        refine p_nm (tt_mul (X := 6) (Y := A0) (by decide) ha0 (by omega) (by omega)) (fun z18 hz18 => ?_)
        refine lv_iload_n hx hb dX10_spread_63 rfl (lv_at hl 1 rfl) ?_
        refine lv_iadd hx hb dX10_spread_64 ?_
        refine p_nm (tt_add (X := (6 * A0)) (Y := r12.toInt) hz18 rfl (by omega) (by omega)) (fun z19 hz19 => ?_)
        refine va_iald hx hb hK hH.1 12 1 (mwc12 C A u9) rfl (i_ix hz19 (by omega) (by omega)) dX10_spread_65 ?_
        refine p_any (fun z20 => ?_)
        refine lv_isub hx hb dX10_spread_66 ?_
        refine p_any (fun z21 => ?_)
        exact hret _ _ _ _ z21 _ dX10_spread_67 rfl ⟨hI, (Un.tr (Un.si Un.rf rfl eu1) hUu9 rfl rfl rfl), trivial⟩ hH
      · have c17 := cEQ (x := r15) (y := 10000) (X := r15.toInt) (Y := 10000) rfl (by decide) c17
        refine lv_sipush (v := 10000) hx hb dX10_spread_48 (by decide) ?_
        refine lv_goto (tgt := 67) hx hb dX10_spread_51 (by decide) ?_
        exact hret _ _ _ _ (10000 : Int32) _ dX10_spread_67 rfl ⟨hI, (Un.tr (Un.si Un.rf rfl eu1) hUu9 rfl rfl rfl), trivial⟩ hH
    · have c14 := cEQ (x := r12) (y := (-1)) (X := r12.toInt) (Y := (-1)) rfl (by decide) c14
      refine lv_iconst (v := 0) hx hb dX10_spread_33 (by decide) ?_
      exact hret _ _ _ _ (0 : Int32) _ dX10_spread_34 rfl ⟨hI, (Un.tr (Un.si Un.rf rfl eu1) hUu9 rfl rfl rfl), trivial⟩ hH
  · subst e9
    refine lv_if_ne (tgt := 17) hx hb dX10_spread_11 (by decide) (fun c22 => absurd c22 (by decide)) (fun c22 => ?_)
    refine lv_bipush (v := (-2)) hx hb dX10_spread_14 (by decide) ?_
    exact hret _ _ _ _ ((-2) : Int32) _ dX10_spread_16 rfl ⟨hI, (Un.si Un.rf rfl eu1), trivial⟩ hH
set_option maxHeartbeats 4000000 in
set_option maxRecDepth 100000 in
theorem kX10_steady_0 (l : Launch) (D : va_G) (C : Nat → ClassId) (A : Nat → Nat) (u : St) (hI : IM u) (sz : Nat) : MetI l yX10_steady cX10_steady 8 (some .int) 4 [.ref (A 0)] D (tyl C) (mw C A) X0 u sz (fun r u' => IM u' ∧ Un [(0, 0), (24, 24), (25, 25)] [(12, 12), (13, 13)] [] u u' ∧ ((-2) ≤ r.toInt ∧ r.toInt ≤ 5)) := by
  refine mI (by decide) (Nat.le_of_ble_eq_true rfl) ?_
  intro p e s m below meth c ls ar Q hx hb hml hown hts hK hH hX hl hret
  have hown : s.vm.findClass RX10 = some m.cls := hown
  have hl : lv_has ls 8 [(0, .ref (A 0))] := hl
  refine lv_aload_n hx hb dX10_steady_0 rfl (lv_at hl 0 rfl) ?_
  refine lv_iconst (v := 0) hx hb dX10_steady_1 (by decide) ?_
  refine r_put (j := 0) (ci := 10) (C := RX10) (T := TX10) (N := 42) hx hb hts (fun w h => uc_in w (inX10 w h)) tyX10 tyX10_ok nmX10 hown hK hH 0 (mwc0 C A u) rfl 0 (by decide) (hts _ (uc_in _ q_f1188)) (fun _ h9 => h9) rfl (by decide +kernel) (Nat.le_of_ble_eq_true rfl) (mws0 C A u _) dX10_steady_2 (fun u1 eu1 H locs hH => ?_)
  have hI := hI.pi0 eu1 rfl
  refine lv_aload_n hx hb dX10_steady_5 rfl (lv_at hl 0 rfl) ?_
  refine cvS (n := 0) (As := []) (rest := []) ⟨hx, hb, hml, hown, hts⟩ uc_in (kX10_isTown_0 l D C A u1 hI ) q_m1554 q_n1556 q_p84 q_i11 q_c1557 hvX10_isTown ⟨(Nat.le_of_ble_eq_true rfl), (Nat.le_of_ble_eq_true rfl)⟩ ⟨(Nat.le_of_ble_eq_true rfl), (Nat.le_of_ble_eq_true rfl)⟩ hK hH.1 10 0 rfl (mwc0 C A u1) rfl hl.1 rfl (Nat.le_of_ble_eq_true rfl) dX10_steady_6 (fun r2 p3 => ?_)
  have p3 : 0 ≤ r2.toInt ∧ r2.toInt ≤ 1 := p3
  refine lv_if_ne (tgt := 15) hx hb dX10_steady_9 (by decide) (fun c4 => ?_) (fun c4 => ?_)
  · have c4 := cNE (x := r2) (y := 0) (X := r2.toInt) (Y := 0) rfl (by decide) c4
    refine lv_aload_n hx hb dX10_steady_15 rfl (lv_at hl 0 rfl) ?_
    refine cvU (n := 0) (As := []) (rest := []) ⟨hx, hb, hml, hown, hts⟩ uc_in (kX10_lays_0 l D C A u1 hI  _) q_m1481 q_n1483 q_p75 q_i11 q_c1484 hvX10_lays ⟨(Nat.le_of_ble_eq_true rfl), (Nat.le_of_ble_eq_true rfl)⟩ ⟨(Nat.le_of_ble_eq_true rfl), (Nat.le_of_ble_eq_true rfl)⟩ hK hH (fun q h => Or.inr h) Bl0 (fun _ _ _ => trivial) 10 0 rfl (mwc0 C A u1) rfl hl.1 rfl (Nat.le_of_ble_eq_true rfl) dX10_steady_16 (fun u5 H locs p7 hH => ?_)
    obtain ⟨hI, hUu5, p7⟩ := p7
    refine lv_iconst (v := (-1)) hx hb dX10_steady_19 (by decide) ?_
    refine lv_istore_n (lv' := [(1, .int (-1)), (0, .ref (A 0))]) hx hb dX10_steady_20 rfl hl (by decide) rfl (fun ls hl => ?_)
    refine lv_ldc (v := 100000) hx hb hown (hts _ (uc_in _ q_k1381)) dX10_steady_21 ?_
    refine lv_istore_n (lv' := [(2, .int 100000), (1, .int (-1)), (0, .ref (A 0))]) hx hb dX10_steady_23 rfl hl (by decide) rfl (fun ls hl => ?_)
    refine lv_iconst (v := 0) hx hb dX10_steady_24 (by decide) ?_
    refine lv_istore_n (lv' := [(3, .int 0), (2, .int 100000), (1, .int (-1)), (0, .ref (A 0))]) hx hb dX10_steady_25 rfl hl (by decide) rfl (fun ls hl => ?_)
    have lp26_837 : ∀ (n26 : Nat) (ls : Array Slot) (y835d : Int32) (y836d : Int32) (y837d : Int32), 0 ≤ y835d.toInt → y835d.toInt ≤ 6 → (-1) ≤ y837d.toInt → y837d.toInt ≤ 5 → 6 - y835d.toInt < (n26 : Int) → lv_has ls 8 [(3, .int y835d), (2, .int y836d), (1, .int y837d), (0, .ref (A 0))] → W p l e (rmL 4 0 0) s m ar below meth c H locs 0 0 Q (F0 m 26 ls []) := by
      intro n26
      induction n26 with
      | zero => intro ls y835d y836d y837d ly835d my835d ly837d my837d hmun26 hl; exfalso; omega
      | succ n26 ih26_837 =>
        intro ls y835d y836d y837d ly835d my835d ly837d my837d hmun26 hl
        refine lv_iload_n hx hb dX10_steady_26 rfl (lv_at hl 0 rfl) ?_
        refine lv_aload_n hx hb dX10_steady_27 rfl (lv_at hl 3 rfl) ?_
        refine cvS (n := 0) (As := []) (rest := [.int y835d]) ⟨hx, hb, hml, hown, hts⟩ uc_in (kX10_clocks_0 l D C A u5 hI ) q_m1464 q_n1466 q_p72 q_i11 q_c1467 hvX10_clocks ⟨(Nat.le_of_ble_eq_true rfl), (Nat.le_of_ble_eq_true rfl)⟩ ⟨(Nat.le_of_ble_eq_true rfl), (Nat.le_of_ble_eq_true rfl)⟩ hK hH.1 10 0 rfl (mwc0 C A u5) rfl hl.1 rfl (Nat.le_of_ble_eq_true rfl) dX10_steady_28 (fun r839 p840 => ?_)
        subst p840
        have b841 : 0 ≤ ((ga u5 7 3)).toInt ∧ ((ga u5 7 3)).toInt ≤ 6 := hI.has 3
        refine lv_icmp_ge (tgt := 133) hx hb dX10_steady_31 (by decide) (fun c842 => ?_) (fun c842 => ?_)
        · have c842 := cLE (x := (ga u5 7 3)) (y := y835d) (X := ((ga u5 7 3)).toInt) (Y := y835d.toInt) rfl rfl c842
          refine lv_iload_n hx hb dX10_steady_133 rfl (lv_at hl 2 rfl) ?_
          exact hret _ _ _ _ y837d _ dX10_steady_134 rfl ⟨hI, (Un.tr (Un.si Un.rf rfl eu1) hUu5 rfl rfl rfl), ⟨by omega, by omega⟩⟩ hH
        · have c842 := cNLE (x := (ga u5 7 3)) (y := y835d) (X := ((ga u5 7 3)).toInt) (Y := y835d.toInt) rfl rfl c842
          refine lv_ldc (v := 100000) hx hb hown (hts _ (uc_in _ q_k1381)) dX10_steady_34 ?_
          refine lv_istore (lv' := [(4, .int 100000), (3, .int y835d), (2, .int y836d), (1, .int y837d), (0, .ref (A 0))]) hx hb dX10_steady_36 hl (by decide) rfl (fun ls hl => ?_)
          refine lv_ldcw (v := (-100000)) hx hb hown (hts _ (uc_in _ q_k1659)) dX10_steady_38 ?_
          refine lv_istore (lv' := [(5, .int (-100000)), (4, .int 100000), (3, .int y835d), (2, .int y836d), (1, .int y837d), (0, .ref (A 0))]) hx hb dX10_steady_41 hl (by decide) rfl (fun ls hl => ?_)
          refine lv_iconst (v := 0) hx hb dX10_steady_43 (by decide) ?_
          refine lv_istore (lv' := [(6, .int 0), (5, .int (-100000)), (4, .int 100000), (3, .int y835d), (2, .int y836d), (1, .int y837d), (0, .ref (A 0))]) hx hb dX10_steady_44 hl (by decide) rfl (fun ls hl => ?_)
          have lp46_982 : ∀ (n46 : Nat) (ls : Array Slot) (y980d : Int32) (y981d : Int32) (y982d : Int32), 0 ≤ y980d.toInt → y980d.toInt ≤ 7 → (-100000) ≤ y981d.toInt → y982d.toInt ≤ 100000 → 7 - y980d.toInt < (n46 : Int) → lv_has ls 8 [(6, .int y980d), (5, .int y981d), (4, .int y982d), (3, .int y835d), (2, .int y836d), (1, .int y837d), (0, .ref (A 0))] → W p l e (rmL 4 0 0) s m ar below meth c H locs 0 0 Q (F0 m 46 ls []) := by
            intro n46
            induction n46 with
            | zero => intro ls y980d y981d y982d ly980d my980d ly981d my982d hmun46 hl; exfalso; omega
            | succ n46 ih46_982 =>
              intro ls y980d y981d y982d ly980d my980d ly981d my982d hmun46 hl
              refine lv_iload hx hb dX10_steady_46 (lv_at hl 0 rfl) ?_
              refine lv_aload_n hx hb dX10_steady_48 rfl (lv_at hl 6 rfl) ?_
              refine cvS (n := 0) (As := []) (rest := [.int y980d]) ⟨hx, hb, hml, hown, hts⟩ uc_in (kX10_days_0 l D C A u5 hI ) q_m1477 q_n1479 q_p74 q_i11 q_c1480 hvX10_days ⟨(Nat.le_of_ble_eq_true rfl), (Nat.le_of_ble_eq_true rfl)⟩ ⟨(Nat.le_of_ble_eq_true rfl), (Nat.le_of_ble_eq_true rfl)⟩ hK hH.1 10 0 rfl (mwc0 C A u5) rfl hl.1 rfl (Nat.le_of_ble_eq_true rfl) dX10_steady_49 (fun r984 p985 => ?_)
              subst p985
              have b986 : 0 ≤ ((ga u5 7 0)).toInt ∧ ((ga u5 7 0)).toInt ≤ 7 := hI.has 0
              refine lv_icmp_ge (tgt := 107) hx hb dX10_steady_52 (by decide) (fun c987 => ?_) (fun c987 => ?_)
              · have c987 := cLE (x := (ga u5 7 0)) (y := y980d) (X := ((ga u5 7 0)).toInt) (Y := y980d.toInt) rfl rfl c987
                refine lv_iload hx hb dX10_steady_107 (lv_at hl 1 rfl) ?_
                refine lv_iload hx hb dX10_steady_109 (lv_at hl 2 rfl) ?_
                refine lv_isub hx hb dX10_steady_111 ?_
                refine p_any (fun z988 => ?_)
                refine lv_iload_n hx hb dX10_steady_112 rfl (lv_at hl 4 rfl) ?_
                have j127_994 : ∀ (ls : Array Slot) (y991d : Int32) (y992d : Int32), (-1) ≤ y992d.toInt → y992d.toInt ≤ 5 → lv_has ls 8 [(2, .int y991d), (1, .int y992d), (3, .int y835d), (0, .ref (A 0))] → W p l e (rmL 4 0 0) s m ar below meth c H locs 0 0 Q (F0 m 127 ls []) := by
                  intro ls y991d y992d ly992d my992d hl
                  obtain ⟨z996, ez996⟩ : ∃ z, z = y835d + Int32.ofInt 1 := ⟨_, rfl⟩
                  have hz996 : z996.toInt = y835d.toInt + 1 := by rw [ez996]; exact tt_add rfl (by decide) (by omega) (by omega)
                  refine lv_iinc (v := z996) (lv' := [(3, .int z996), (2, .int y991d), (1, .int y992d), (0, .ref (A 0))]) hx hb dX10_steady_127 hl (k := 2) rfl ez996.symm (by decide) rfl (fun ls hl => ?_)
                  refine lv_goto (tgt := 26) hx hb dX10_steady_130 (by decide) ?_
                  exact ih26_837 ls z996 y991d y992d (by have q9 := (show z996.toInt = (y835d.toInt + 1) from hz996); omega) (by have q9 := (show z996.toInt = (y835d.toInt + 1) from hz996); omega) (by omega) (by omega) (by have q9 := (show z996.toInt = (y835d.toInt + 1) from hz996); omega) hl
                refine lv_icmp_lt (tgt := 119) hx hb dX10_steady_113 (by decide) (fun c989 => ?_) (fun c989 => ?_)
                · have c989 := cLT (x := z988) (y := y836d) (X := z988.toInt) (Y := y836d.toInt) rfl rfl c989
                  refine lv_iload_n hx hb dX10_steady_119 rfl (lv_at hl 3 rfl) ?_
                  refine lv_istore_n (lv' := [(1, .int y835d), (6, .int y980d), (5, .int y981d), (4, .int y982d), (3, .int y835d), (2, .int y836d), (0, .ref (A 0))]) hx hb dX10_steady_120 rfl hl (by decide) rfl (fun ls hl => ?_)
                  refine lv_iload hx hb dX10_steady_121 (lv_at hl 2 rfl) ?_
                  refine lv_iload hx hb dX10_steady_123 (lv_at hl 3 rfl) ?_
                  refine lv_isub hx hb dX10_steady_125 ?_
                  refine p_any (fun z997 => ?_)
                  refine lv_istore_n (lv' := [(2, .int z997), (1, .int y835d), (6, .int y980d), (5, .int y981d), (4, .int y982d), (3, .int y835d), (0, .ref (A 0))]) hx hb dX10_steady_126 rfl hl (by decide) rfl (fun ls hl => ?_)
                  exact j127_994 ls z997 y835d (by omega) (by omega) (lv_sub hl [0, 1, 5, 6] rfl)
                · have c989 := cNLT (x := z988) (y := y836d) (X := z988.toInt) (Y := y836d.toInt) rfl rfl c989
                  refine lv_goto (tgt := 127) hx hb dX10_steady_116 (by decide) ?_
                  exact j127_994 ls y836d y837d (by omega) (by omega) (lv_sub hl [4, 5, 3, 6] rfl)
              · have c987 := cNLE (x := (ga u5 7 0)) (y := y980d) (X := ((ga u5 7 0)).toInt) (Y := y980d.toInt) rfl rfl c987
                refine lv_aload_n hx hb dX10_steady_55 rfl (lv_at hl 6 rfl) ?_
                refine va_get (ci := 10) (v := .ref (A 12)) (C := RX10) (T := TX10) (N := 42) hx hb hts (fun w h => uc_in w (inX10 w h)) hown hK hH.1 0 (mwc0 C A u5) rfl 22 (by decide) (hts _ (uc_in _ q_f1210)) (fun _ h9 => h9) rfl dX10_steady_56 ?_
                refine lv_bipush (v := 6) hx hb dX10_steady_59 (by decide) ?_
                refine lv_iload hx hb dX10_steady_61 (lv_at hl 0 rfl) ?_
                refine lv_imul hx hb dX10_steady_63 ?_
                refine p_nm (tt_mul (X := 6) (Y := y980d.toInt) (by decide) rfl (by omega) (by omega)) (fun z998 hz998 => ?_)
                refine lv_iload_n hx hb dX10_steady_64 rfl (lv_at hl 3 rfl) ?_
                refine lv_iadd hx hb dX10_steady_65 ?_
                refine p_nm (tt_add (X := (6 * y980d.toInt)) (Y := y835d.toInt) hz998 rfl (by omega) (by omega)) (fun z999 hz999 => ?_)
                refine va_iald hx hb hK hH.1 12 1 (mwc12 C A u5) rfl (i_ix hz999 (by omega) (by omega)) dX10_steady_66 ?_
                refine p_any (fun z1000 => ?_)
                refine lv_istore (lv' := [(7, .int z1000), (6, .int y980d), (5, .int y981d), (4, .int y982d), (3, .int y835d), (2, .int y836d), (1, .int y837d), (0, .ref (A 0))]) hx hb dX10_steady_67 hl (by decide) rfl (fun ls hl => ?_)
                refine lv_iload hx hb dX10_steady_69 (lv_at hl 0 rfl) ?_
                refine lv_iload hx hb dX10_steady_71 (lv_at hl 3 rfl) ?_
                have j83_1006 : ∀ (ls : Array Slot) (y1002d : Int32), y1002d.toInt ≤ 100000 → lv_has ls 8 [(7, .int z1000), (6, .int y980d), (5, .int y981d), (3, .int y835d), (2, .int y836d), (1, .int y837d), (0, .ref (A 0))] → W p l e (rmL 4 0 0) s m ar below meth c H locs 0 0 Q (F0 m 83 ls [.int y1002d]) := by
                  intro ls y1002d my1002d hl
                  refine lv_istore (lv' := [(4, .int y1002d), (7, .int z1000), (6, .int y980d), (5, .int y981d), (3, .int y835d), (2, .int y836d), (1, .int y837d), (0, .ref (A 0))]) hx hb dX10_steady_83 hl (by decide) rfl (fun ls hl => ?_)
                  refine lv_iload hx hb dX10_steady_85 (lv_at hl 1 rfl) ?_
                  refine lv_iload hx hb dX10_steady_87 (lv_at hl 3 rfl) ?_
                  have j99_1011 : ∀ (ls : Array Slot) (y1009d : Int32), (-100000) ≤ y1009d.toInt → lv_has ls 8 [(4, .int y1002d), (6, .int y980d), (3, .int y835d), (2, .int y836d), (1, .int y837d), (0, .ref (A 0))] → W p l e (rmL 4 0 0) s m ar below meth c H locs 0 0 Q (F0 m 99 ls [.int y1009d]) := by
                    intro ls y1009d ly1009d hl
                    refine lv_istore (lv' := [(5, .int y1009d), (4, .int y1002d), (6, .int y980d), (3, .int y835d), (2, .int y836d), (1, .int y837d), (0, .ref (A 0))]) hx hb dX10_steady_99 hl (by decide) rfl (fun ls hl => ?_)
                    obtain ⟨z1013, ez1013⟩ : ∃ z, z = y980d + Int32.ofInt 1 := ⟨_, rfl⟩
                    have hz1013 : z1013.toInt = y980d.toInt + 1 := by rw [ez1013]; exact tt_add rfl (by decide) (by omega) (by omega)
                    refine lv_iinc (v := z1013) (lv' := [(6, .int z1013), (5, .int y1009d), (4, .int y1002d), (3, .int y835d), (2, .int y836d), (1, .int y837d), (0, .ref (A 0))]) hx hb dX10_steady_101 hl (k := 2) rfl ez1013.symm (by decide) rfl (fun ls hl => ?_)
                    refine lv_goto (tgt := 46) hx hb dX10_steady_104 (by decide) ?_
                    exact ih46_982 ls z1013 y1009d y1002d (by have q9 := (show z1013.toInt = (y980d.toInt + 1) from hz1013); omega) (by have q9 := (show z1013.toInt = (y980d.toInt + 1) from hz1013); omega) (by omega) (by omega) (by have q9 := (show z1013.toInt = (y980d.toInt + 1) from hz1013); omega) hl
                  refine lv_icmp_le (tgt := 97) hx hb dX10_steady_89 (by decide) (fun c1008 => ?_) (fun c1008 => ?_)
                  · have c1008 := cLE (x := z1000) (y := y981d) (X := z1000.toInt) (Y := y981d.toInt) rfl rfl c1008
                    refine lv_iload hx hb dX10_steady_97 (lv_at hl 3 rfl) ?_
                    exact j99_1011 ls y981d (by omega) (lv_sub hl [0, 2, 4, 5, 6, 7] rfl)
                  · have c1008 := cNLE (x := z1000) (y := y981d) (X := z1000.toInt) (Y := y981d.toInt) rfl rfl c1008
                    refine lv_iload hx hb dX10_steady_92 (lv_at hl 1 rfl) ?_
                    refine lv_goto (tgt := 99) hx hb dX10_steady_94 (by decide) ?_
                    exact j99_1011 ls z1000 (by omega) (lv_sub hl [0, 2, 4, 5, 6, 7] rfl)
                refine lv_icmp_ge (tgt := 81) hx hb dX10_steady_73 (by decide) (fun c1001 => ?_) (fun c1001 => ?_)
                · have c1001 := cLE (x := y982d) (y := z1000) (X := y982d.toInt) (Y := z1000.toInt) rfl rfl c1001
                  refine lv_iload hx hb dX10_steady_81 (lv_at hl 3 rfl) ?_
                  exact j83_1006 ls y982d (by omega) (lv_sub hl [0, 1, 2, 4, 5, 6, 7] rfl)
                · have c1001 := cNLE (x := y982d) (y := z1000) (X := y982d.toInt) (Y := z1000.toInt) rfl rfl c1001
                  refine lv_iload hx hb dX10_steady_76 (lv_at hl 0 rfl) ?_
                  refine lv_goto (tgt := 83) hx hb dX10_steady_78 (by decide) ?_
                  exact j83_1006 ls z1000 (by omega) (lv_sub hl [0, 1, 2, 4, 5, 6, 7] rfl)
          exact lp46_982 8 ls 0 (-100000) 100000 (by decide) (by decide) (by decide) (by decide) (by have q9 : (0 : Int32).toInt = 0 := (by decide); omega) hl
    exact lp26_837 7 ls 0 100000 (-1) (by decide) (by decide) (by decide) (by decide) (by have q9 : (0 : Int32).toInt = 0 := (by decide); omega) hl
  · have c4 := cEQ (x := r2) (y := 0) (X := r2.toInt) (Y := 0) rfl (by decide) c4
    refine lv_bipush (v := (-2)) hx hb dX10_steady_12 (by decide) ?_
    exact hret _ _ _ _ ((-2) : Int32) _ dX10_steady_14 rfl ⟨hI, (Un.si Un.rf rfl eu1), ⟨by decide, by decide⟩⟩ hH
set_option maxHeartbeats 4000000 in
set_option maxRecDepth 100000 in
theorem kX10_stop_0 (l : Launch) (D : va_G) (C : Nat → ClassId) (A : Nat → Nat) (u : St) (hI : IM u) (a0 : Int32) (A0 : Int) (ha0 : a0.toInt = A0) (a1 : Int32) (A1 : Int) (ha1 : a1.toInt = A1) (sz : Nat) : MetI l yX10_stop cX10_stop 3 (some .int) 5 [.ref (A 0), .int a0, .int a1] D (tyl C) (mw C A) X0 u sz (fun r u' => IM u' ∧ Un [(0, 0), (24, 24), (25, 25)] [(7, 7), (10, 10), (12, 12), (13, 13)] [] u u' ∧ (True)) := by
  refine mI (by decide) (Nat.le_of_ble_eq_true rfl) ?_
  intro p e s m below meth c ls ar Q hx hb hml hown hts hK hH hX hl hret
  have hown : s.vm.findClass RX10 = some m.cls := hown
  have hl : lv_has ls 3 [(0, .ref (A 0)), (1, .int a0), (2, .int a1)] := hl
  refine lv_aload_n hx hb dX10_stop_0 rfl (lv_at hl 0 rfl) ?_
  refine lv_iconst (v := 0) hx hb dX10_stop_1 (by decide) ?_
  refine r_put (j := 0) (ci := 10) (C := RX10) (T := TX10) (N := 42) hx hb hts (fun w h => uc_in w (inX10 w h)) tyX10 tyX10_ok nmX10 hown hK hH 0 (mwc0 C A u) rfl 0 (by decide) (hts _ (uc_in _ q_f1188)) (fun _ h9 => h9) rfl (by decide +kernel) (Nat.le_of_ble_eq_true rfl) (mws0 C A u _) dX10_stop_2 (fun u1 eu1 H locs hH => ?_)
  have hI := hI.pi0 eu1 rfl
  refine lv_aload_n hx hb dX10_stop_5 rfl (lv_at hl 0 rfl) ?_
  refine lv_iload_n hx hb dX10_stop_6 rfl (lv_at hl 1 rfl) ?_
  refine lv_i2l (v := a0.toInt64) hx hb dX10_stop_7 rfl ?_
  refine cvS (n := 1) (As := [.long a0.toInt64]) (rest := []) ⟨hx, hb, hml, hown, hts⟩ uc_in (kX10_isClock_0 l D C A u1 hI a0.toInt64 A0 (tt_i2l ha0)) q_m1460 q_n1462 q_p71 q_i11 q_c1463 hvX10_isClock ⟨(Nat.le_of_ble_eq_true rfl), (Nat.le_of_ble_eq_true rfl)⟩ ⟨(Nat.le_of_ble_eq_true rfl), (Nat.le_of_ble_eq_true rfl)⟩ hK hH.1 10 0 rfl (mwc0 C A u1) rfl hl.1 rfl (Nat.le_of_ble_eq_true rfl) dX10_stop_8 (fun r2 p3 => ?_)
  rcases p3 with ⟨e9, f4, f5⟩ | e9
  · subst e9
    have b7 : 0 ≤ ((ga u1 7 3)).toInt ∧ ((ga u1 7 3)).toInt ≤ 6 := hI.has 3
    refine lv_if_eq (tgt := 33) hx hb dX10_stop_11 (by decide) (fun c8 => absurd c8 (by decide)) (fun c8 => ?_)
    refine lv_aload_n hx hb dX10_stop_14 rfl (lv_at hl 0 rfl) ?_
    refine lv_iload_n hx hb dX10_stop_15 rfl (lv_at hl 2 rfl) ?_
    refine lv_i2l (v := a1.toInt64) hx hb dX10_stop_16 rfl ?_
    refine cvS (n := 1) (As := [.long a1.toInt64]) (rest := []) ⟨hx, hb, hml, hown, hts⟩ uc_in (kX10_isDay_0 l D C A u1 hI a1.toInt64 A1 (tt_i2l ha1)) q_m1473 q_n1475 q_p73 q_i11 q_c1476 hvX10_isDay ⟨(Nat.le_of_ble_eq_true rfl), (Nat.le_of_ble_eq_true rfl)⟩ ⟨(Nat.le_of_ble_eq_true rfl), (Nat.le_of_ble_eq_true rfl)⟩ hK hH.1 10 0 rfl (mwc0 C A u1) rfl hl.1 rfl (Nat.le_of_ble_eq_true rfl) dX10_stop_17 (fun r9 p10 => ?_)
    rcases p10 with ⟨e9, f11, f12⟩ | e9
    · subst e9
      have b14 : 0 ≤ ((ga u1 7 0)).toInt ∧ ((ga u1 7 0)).toInt ≤ 7 := hI.has 0
      refine lv_if_eq (tgt := 33) hx hb dX10_stop_20 (by decide) (fun c15 => absurd c15 (by decide)) (fun c15 => ?_)
      refine lv_aload_n hx hb dX10_stop_23 rfl (lv_at hl 0 rfl) ?_
      refine lv_iconst (v := 2) hx hb dX10_stop_24 (by decide) ?_
      refine lv_iload_n hx hb dX10_stop_25 rfl (lv_at hl 1 rfl) ?_
      refine lv_iload_n hx hb dX10_stop_26 rfl (lv_at hl 2 rfl) ?_
      refine cvI (n := 3) (As := [.int 2, .int a0, .int a1]) (rest := []) ⟨hx, hb, hml, hown, hts⟩ uc_in (kX10_acts_0 l D C A u1 hI (2) 2 (by decide) a0 A0 ha0 a1 A1 ha1 (by omega) (by omega) (by omega) (by omega) _) q_m1871 q_n1873 q_p111 q_i11 q_c1874 hvX10_acts ⟨(Nat.le_of_ble_eq_true rfl), (Nat.le_of_ble_eq_true rfl)⟩ ⟨(Nat.le_of_ble_eq_true rfl), (Nat.le_of_ble_eq_true rfl)⟩ hK hH (fun q h => Or.inr h) Bl0 (fun _ _ _ => trivial) 10 0 rfl (mwc0 C A u1) rfl hl.1 rfl (Nat.le_of_ble_eq_true rfl) dX10_stop_27 (fun r17 u16 H locs p18 hH => ?_)
      obtain ⟨hI, hUu16, p18⟩ := p18
      refine lv_goto (tgt := 36) hx hb dX10_stop_30 (by decide) ?_
      exact hret _ _ _ _ r17 _ dX10_stop_36 rfl ⟨hI, (Un.tr (Un.si Un.rf rfl eu1) hUu16 rfl rfl rfl), trivial⟩ hH
    · subst e9
      refine lv_if_eq (tgt := 33) hx hb dX10_stop_20 (by decide) (fun c19 => ?_) (fun c19 => absurd c19 (by decide))
      refine lv_sipush (v := (-1000)) hx hb dX10_stop_33 (by decide) ?_
      exact hret _ _ _ _ ((-1000) : Int32) _ dX10_stop_36 rfl ⟨hI, (Un.si Un.rf rfl eu1), trivial⟩ hH
  · subst e9
    refine lv_if_eq (tgt := 33) hx hb dX10_stop_11 (by decide) (fun c20 => ?_) (fun c20 => absurd c20 (by decide))
    refine lv_sipush (v := (-1000)) hx hb dX10_stop_33 (by decide) ?_
    exact hret _ _ _ _ ((-1000) : Int32) _ dX10_stop_36 rfl ⟨hI, (Un.si Un.rf rfl eu1), trivial⟩ hH
set_option maxHeartbeats 4000000 in
set_option maxRecDepth 100000 in
theorem kX10_struck_0 (l : Launch) (D : va_G) (C : Nat → ClassId) (A : Nat → Nat) (u : St) (hI : IM u) (a0 : Int32) (A0 : Int) (ha0 : a0.toInt = A0) (a1 : Int32) (A1 : Int) (ha1 : a1.toInt = A1) (sz : Nat) : MetI l yX10_struck cX10_struck 5 (some .int) 4 [.ref (A 0), .int a0, .int a1] D (tyl C) (mw C A) X0 u sz (fun r u' => IM u' ∧ Un [(0, 0), (24, 24), (25, 25)] [(12, 12), (13, 13)] [] u u' ∧ ((-2) ≤ r.toInt ∧ r.toInt ≤ 63)) := by
  refine mI (by decide) (Nat.le_of_ble_eq_true rfl) ?_
  intro p e s m below meth c ls ar Q hx hb hml hown hts hK hH hX hl hret
  have hown : s.vm.findClass RX10 = some m.cls := hown
  have hl : lv_has ls 5 [(0, .ref (A 0)), (1, .int a0), (2, .int a1)] := hl
  refine lv_aload_n hx hb dX10_struck_0 rfl (lv_at hl 0 rfl) ?_
  refine lv_iconst (v := 0) hx hb dX10_struck_1 (by decide) ?_
  refine r_put (j := 0) (ci := 10) (C := RX10) (T := TX10) (N := 42) hx hb hts (fun w h => uc_in w (inX10 w h)) tyX10 tyX10_ok nmX10 hown hK hH 0 (mwc0 C A u) rfl 0 (by decide) (hts _ (uc_in _ q_f1188)) (fun _ h9 => h9) rfl (by decide +kernel) (Nat.le_of_ble_eq_true rfl) (mws0 C A u _) dX10_struck_2 (fun u1 eu1 H locs hH => ?_)
  have hI := hI.pi0 eu1 rfl
  refine lv_aload_n hx hb dX10_struck_5 rfl (lv_at hl 0 rfl) ?_
  refine lv_iload_n hx hb dX10_struck_6 rfl (lv_at hl 1 rfl) ?_
  refine lv_i2l (v := a0.toInt64) hx hb dX10_struck_7 rfl ?_
  refine cvS (n := 1) (As := [.long a0.toInt64]) (rest := []) ⟨hx, hb, hml, hown, hts⟩ uc_in (kX10_isDay_0 l D C A u1 hI a0.toInt64 A0 (tt_i2l ha0)) q_m1473 q_n1475 q_p73 q_i11 q_c1476 hvX10_isDay ⟨(Nat.le_of_ble_eq_true rfl), (Nat.le_of_ble_eq_true rfl)⟩ ⟨(Nat.le_of_ble_eq_true rfl), (Nat.le_of_ble_eq_true rfl)⟩ hK hH.1 10 0 rfl (mwc0 C A u1) rfl hl.1 rfl (Nat.le_of_ble_eq_true rfl) dX10_struck_8 (fun r2 p3 => ?_)
  rcases p3 with ⟨e9, f4, f5⟩ | e9
  · subst e9
    have b7 : 0 ≤ ((ga u1 7 0)).toInt ∧ ((ga u1 7 0)).toInt ≤ 7 := hI.has 0
    refine lv_if_eq (tgt := 28) hx hb dX10_struck_11 (by decide) (fun c8 => absurd c8 (by decide)) (fun c8 => ?_)
    refine lv_iload_n hx hb dX10_struck_14 rfl (lv_at hl 2 rfl) ?_
    refine lv_i2l (v := a1.toInt64) hx hb dX10_struck_15 rfl ?_
    refine lv_ldc2 (v := (-1000)) hx hb hown (hts _ (uc_in _ q_k1532)) dX10_struck_16 ?_
    refine lv_ldc2 (v := 1000) hx hb hown (hts _ (uc_in _ q_k1533)) dX10_struck_19 ?_
    refine csS (n := 3) (As := [.long a1.toInt64, .long (-1000), .long 1000]) (rest := []) ⟨hx, hb, hml, hown, hts⟩ uc_in (kX10_in_0 l D C A u1 hI a1.toInt64 A1 (tt_i2l ha1) (-1000) (-1000) (by decide) (1000) 1000 (by decide)) q_m1324 q_s1325 q_i11 q_c1326 hvX10_in ⟨(Nat.le_of_ble_eq_true rfl), (Nat.le_of_ble_eq_true rfl)⟩ ⟨(Nat.le_of_ble_eq_true rfl), (Nat.le_of_ble_eq_true rfl)⟩ hK hH.1 rfl hl.1 rfl (Nat.le_of_ble_eq_true rfl) dX10_struck_22 (fun r9 p10 => ?_)
    rcases p10 with ⟨e9, f11, f12⟩ | ⟨e9, fn13⟩
    · subst e9
      refine lv_if_ne (tgt := 31) hx hb dX10_struck_25 (by decide) (fun c14 => ?_) (fun c14 => absurd c14 (by decide))
      refine lv_aload_n hx hb dX10_struck_31 rfl (lv_at hl 0 rfl) ?_
      refine cvU (n := 0) (As := []) (rest := []) ⟨hx, hb, hml, hown, hts⟩ uc_in (kX10_lays_0 l D C A u1 hI  _) q_m1481 q_n1483 q_p75 q_i11 q_c1484 hvX10_lays ⟨(Nat.le_of_ble_eq_true rfl), (Nat.le_of_ble_eq_true rfl)⟩ ⟨(Nat.le_of_ble_eq_true rfl), (Nat.le_of_ble_eq_true rfl)⟩ hK hH (fun q h => Or.inr h) Bl0 (fun _ _ _ => trivial) 10 0 rfl (mwc0 C A u1) rfl hl.1 rfl (Nat.le_of_ble_eq_true rfl) dX10_struck_32 (fun u15 H locs p17 hH => ?_)
      obtain ⟨hI, hUu15, p17⟩ := p17
      refine lv_iconst (v := 0) hx hb dX10_struck_35 (by decide) ?_
      refine lv_istore_n (lv' := [(3, .int 0), (0, .ref (A 0)), (1, .int a0), (2, .int a1)]) hx hb dX10_struck_36 rfl hl (by decide) rfl (fun ls hl => ?_)
      refine lv_iconst (v := 0) hx hb dX10_struck_37 (by decide) ?_
      refine lv_istore (lv' := [(4, .int 0), (3, .int 0), (0, .ref (A 0)), (1, .int a0), (2, .int a1)]) hx hb dX10_struck_38 hl (by decide) rfl (fun ls hl => ?_)
      have lp40_124 : ∀ (n40 : Nat) (ls : Array Slot) (y123d : Int32) (y124d : Int32), 0 ≤ y123d.toInt → y123d.toInt ≤ 6 → 0 ≤ y124d.toInt → y124d.toInt ≤ 63 → 6 - y123d.toInt < (n40 : Int) → lv_has ls 5 [(4, .int y123d), (3, .int y124d), (0, .ref (A 0)), (1, .int a0), (2, .int a1)] → W p l e (rmL 4 0 0) s m ar below meth c H locs 0 0 Q (F0 m 40 ls []) := by
        intro n40
        induction n40 with
        | zero => intro ls y123d y124d ly123d my123d ly124d my124d hmun40 hl; exfalso; omega
        | succ n40 ih40_124 =>
          intro ls y123d y124d ly123d my123d ly124d my124d hmun40 hl
          refine lv_iload hx hb dX10_struck_40 (lv_at hl 0 rfl) ?_
          refine lv_aload_n hx hb dX10_struck_42 rfl (lv_at hl 2 rfl) ?_
          refine cvS (n := 0) (As := []) (rest := [.int y123d]) ⟨hx, hb, hml, hown, hts⟩ uc_in (kX10_clocks_0 l D C A u15 hI ) q_m1464 q_n1466 q_p72 q_i11 q_c1467 hvX10_clocks ⟨(Nat.le_of_ble_eq_true rfl), (Nat.le_of_ble_eq_true rfl)⟩ ⟨(Nat.le_of_ble_eq_true rfl), (Nat.le_of_ble_eq_true rfl)⟩ hK hH.1 10 0 rfl (mwc0 C A u15) rfl hl.1 rfl (Nat.le_of_ble_eq_true rfl) dX10_struck_43 (fun r126 p127 => ?_)
          subst p127
          have b128 : 0 ≤ ((ga u15 7 3)).toInt ∧ ((ga u15 7 3)).toInt ≤ 6 := hI.has 3
          refine lv_icmp_ge (tgt := 97) hx hb dX10_struck_46 (by decide) (fun c129 => ?_) (fun c129 => ?_)
          · have c129 := cLE (x := (ga u15 7 3)) (y := y123d) (X := ((ga u15 7 3)).toInt) (Y := y123d.toInt) rfl rfl c129
            refine lv_iload_n hx hb dX10_struck_97 rfl (lv_at hl 1 rfl) ?_
            exact hret _ _ _ _ y124d _ dX10_struck_98 rfl ⟨hI, (Un.tr (Un.si Un.rf rfl eu1) hUu15 rfl rfl rfl), ⟨by omega, by omega⟩⟩ hH
          · have c129 := cNLE (x := (ga u15 7 3)) (y := y123d) (X := ((ga u15 7 3)).toInt) (Y := y123d.toInt) rfl rfl c129
            refine lv_iload_n hx hb dX10_struck_49 rfl (lv_at hl 1 rfl) ?_
            refine lv_aload_n hx hb dX10_struck_50 rfl (lv_at hl 2 rfl) ?_
            refine va_get (ci := 10) (v := .ref (A 13)) (C := RX10) (T := TX10) (N := 42) hx hb hts (fun w h => uc_in w (inX10 w h)) hown hK hH.1 0 (mwc0 C A u15) rfl 23 (by decide) (hts _ (uc_in _ q_f1211)) (fun _ h9 => h9) rfl dX10_struck_51 ?_
            refine lv_bipush (v := 6) hx hb dX10_struck_54 (by decide) ?_
            refine lv_iload_n hx hb dX10_struck_56 rfl (lv_at hl 3 rfl) ?_
            refine lv_imul hx hb dX10_struck_57 ?_
            refine p_nm (tt_mul (X := 6) (Y := A0) (by decide) ha0 (by omega) (by omega)) (fun z130 hz130 => ?_)
            refine lv_iload hx hb dX10_struck_58 (lv_at hl 0 rfl) ?_
            refine lv_iadd hx hb dX10_struck_60 ?_
            refine p_nm (tt_add (X := (6 * A0)) (Y := y123d.toInt) hz130 rfl (by omega) (by omega)) (fun z131 hz131 => ?_)
            refine va_zald hx hb hK hH.1 13 3 (mwc13 C A u15) rfl (i_ix hz131 (by omega) (by omega)) dX10_struck_61 ?_
            refine p_any (fun z132 => ?_)
            have j89_144 : ∀ (ls : Array Slot) (y140d : Int32), 0 ≤ y140d.toInt → y140d.toInt ≤ 32 → lv_has ls 5 [(4, .int y123d), (0, .ref (A 0)), (1, .int a0), (2, .int a1)] → W p l e (rmL 4 0 0) s m ar below meth c H locs 0 0 Q (F0 m 89 ls [.int y140d, .int y124d]) := by
              intro ls y140d ly140d my140d hl
              refine lv_ior hx hb dX10_struck_89 ?_
              have gz146 := tt_or (x := y124d) (y := y140d) (X := y124d.toInt) (Y := y140d.toInt) rfl rfl 6 (by decide) (by omega) (by omega) (by omega) (by omega)
              refine p_bd (P := fun q => 0 ≤ q ∧ q ≤ 63) ⟨by omega, by omega⟩ (fun z147 bz147 => ?_)
              have bz147 : 0 ≤ z147.toInt ∧ z147.toInt ≤ 63 := bz147
              refine lv_istore_n (lv' := [(3, .int z147), (4, .int y123d), (0, .ref (A 0)), (1, .int a0), (2, .int a1)]) hx hb dX10_struck_90 rfl hl (by decide) rfl (fun ls hl => ?_)
              obtain ⟨z148, ez148⟩ : ∃ z, z = y123d + Int32.ofInt 1 := ⟨_, rfl⟩
              have hz148 : z148.toInt = y123d.toInt + 1 := by rw [ez148]; exact tt_add rfl (by decide) (by omega) (by omega)
              refine lv_iinc (v := z148) (lv' := [(4, .int z148), (3, .int z147), (0, .ref (A 0)), (1, .int a0), (2, .int a1)]) hx hb dX10_struck_91 hl (k := 1) rfl ez148.symm (by decide) rfl (fun ls hl => ?_)
              refine lv_goto (tgt := 40) hx hb dX10_struck_94 (by decide) ?_
              exact ih40_124 ls z148 z147 (by have q9 := (show z148.toInt = (y123d.toInt + 1) from hz148); omega) (by have q9 := (show z148.toInt = (y123d.toInt + 1) from hz148); omega) (by omega) (by omega) (by have q9 := (show z148.toInt = (y123d.toInt + 1) from hz148); omega) hl
            have j88_149 : ∀ (ls : Array Slot), lv_has ls 5 [(4, .int y123d), (0, .ref (A 0)), (1, .int a0), (2, .int a1)] → W p l e (rmL 4 0 0) s m ar below meth c H locs 0 0 Q (F0 m 88 ls [.int y124d]) := by
              intro ls hl
              refine lv_iconst (v := 0) hx hb dX10_struck_88 (by decide) ?_
              exact j89_144 ls 0 (by decide) (by decide) hl
            refine lv_if_eq (tgt := 88) hx hb dX10_struck_62 (by decide) (fun c133 => ?_) (fun c133 => ?_)
            · have c133 := cEQ (x := z132) (y := 0) (X := z132.toInt) (Y := 0) rfl (by decide) c133
              exact j88_149 ls (lv_sub hl [0, 2, 3, 4] rfl)
            · refine lv_aload_n hx hb dX10_struck_65 rfl (lv_at hl 2 rfl) ?_
              refine va_get (ci := 10) (v := .ref (A 12)) (C := RX10) (T := TX10) (N := 42) hx hb hts (fun w h => uc_in w (inX10 w h)) hown hK hH.1 0 (mwc0 C A u15) rfl 22 (by decide) (hts _ (uc_in _ q_f1210)) (fun _ h9 => h9) rfl dX10_struck_66 ?_
              refine lv_bipush (v := 6) hx hb dX10_struck_69 (by decide) ?_
              refine lv_iload_n hx hb dX10_struck_71 rfl (lv_at hl 3 rfl) ?_
              refine lv_imul hx hb dX10_struck_72 ?_
              refine p_nm (tt_mul (X := 6) (Y := A0) (by decide) ha0 (by omega) (by omega)) (fun z151 hz151 => ?_)
              refine lv_iload hx hb dX10_struck_73 (lv_at hl 0 rfl) ?_
              refine lv_iadd hx hb dX10_struck_75 ?_
              refine p_nm (tt_add (X := (6 * A0)) (Y := y123d.toInt) hz151 rfl (by omega) (by omega)) (fun z152 hz152 => ?_)
              refine va_iald hx hb hK hH.1 12 1 (mwc12 C A u15) rfl (i_ix hz152 (by omega) (by omega)) dX10_struck_76 ?_
              refine p_any (fun z153 => ?_)
              refine lv_iload_n hx hb dX10_struck_77 rfl (lv_at hl 4 rfl) ?_
              refine lv_icmp_gt (tgt := 88) hx hb dX10_struck_78 (by decide) (fun c154 => ?_) (fun c154 => ?_)
              · have c154 := cLT (x := a1) (y := z153) (X := A1) (Y := z153.toInt) ha1 rfl c154
                exact j88_149 ls (lv_sub hl [0, 2, 3, 4] rfl)
              · have c154 := cNLT (x := a1) (y := z153) (X := A1) (Y := z153.toInt) ha1 rfl c154
                refine lv_iconst (v := 1) hx hb dX10_struck_81 (by decide) ?_
                refine lv_iload hx hb dX10_struck_82 (lv_at hl 0 rfl) ?_
                refine lv_ishl hx hb dX10_struck_84 ?_
                have gz155 := tt_shl1 (y := y123d) (Y := y123d.toInt) rfl (by omega) (by omega)
                refine p_bd (P := fun q => 1 ≤ q ∧ q ≤ 32) ⟨by omega, by omega⟩ (fun z156 bz156 => ?_)
                have bz156 : 1 ≤ z156.toInt ∧ z156.toInt ≤ 32 := bz156
                refine lv_goto (tgt := 89) hx hb dX10_struck_85 (by decide) ?_
                exact j89_144 ls z156 (by omega) (by omega) (lv_sub hl [0, 2, 3, 4] rfl)
      exact lp40_124 7 ls 0 0 (by decide) (by decide) (by decide) (by decide) (by have q9 : (0 : Int32).toInt = 0 := (by decide); omega) hl
    · subst e9
      refine lv_if_ne (tgt := 31) hx hb dX10_struck_25 (by decide) (fun c157 => absurd c157 (by decide)) (fun c157 => ?_)
      refine lv_bipush (v := (-2)) hx hb dX10_struck_28 (by decide) ?_
      exact hret _ _ _ _ ((-2) : Int32) _ dX10_struck_30 rfl ⟨hI, (Un.si Un.rf rfl eu1), ⟨by decide, by decide⟩⟩ hH
  · subst e9
    refine lv_if_eq (tgt := 28) hx hb dX10_struck_11 (by decide) (fun c158 => ?_) (fun c158 => absurd c158 (by decide))
    refine lv_bipush (v := (-2)) hx hb dX10_struck_28 (by decide) ?_
    exact hret _ _ _ _ ((-2) : Int32) _ dX10_struck_30 rfl ⟨hI, (Un.si Un.rf rfl eu1), ⟨by decide, by decide⟩⟩ hH
set_option maxHeartbeats 4000000 in
set_option maxRecDepth 100000 in
theorem kX10_sure_0 (l : Launch) (D : va_G) (C : Nat → ClassId) (A : Nat → Nat) (u : St) (hI : IM u) (a0 : Int32) (A0 : Int) (ha0 : a0.toInt = A0) (a1 : Int32) (A1 : Int) (ha1 : a1.toInt = A1) (sz : Nat) : MetI l yX10_sure cX10_sure 4 (some .int) 4 [.ref (A 0), .int a0, .int a1] D (tyl C) (mw C A) X0 u sz (fun r u' => IM u' ∧ Un [(0, 0), (24, 24), (25, 25), (41, 41)] [(12, 12), (13, 13)] [] u u' ∧ ((-2) ≤ r.toInt ∧ r.toInt ≤ 600)) := by
  refine mI (by decide) (Nat.le_of_ble_eq_true rfl) ?_
  intro p e s m below meth c ls ar Q hx hb hml hown hts hK hH hX hl hret
  have hown : s.vm.findClass RX10 = some m.cls := hown
  have hl : lv_has ls 4 [(0, .ref (A 0)), (1, .int a0), (2, .int a1)] := hl
  refine lv_aload_n hx hb dX10_sure_0 rfl (lv_at hl 0 rfl) ?_
  refine lv_iconst (v := 0) hx hb dX10_sure_1 (by decide) ?_
  refine r_put (j := 0) (ci := 10) (C := RX10) (T := TX10) (N := 42) hx hb hts (fun w h => uc_in w (inX10 w h)) tyX10 tyX10_ok nmX10 hown hK hH 0 (mwc0 C A u) rfl 0 (by decide) (hts _ (uc_in _ q_f1188)) (fun _ h9 => h9) rfl (by decide +kernel) (Nat.le_of_ble_eq_true rfl) (mws0 C A u _) dX10_sure_2 (fun u1 eu1 H locs hH => ?_)
  have hI := hI.pi0 eu1 rfl
  refine lv_aload_n hx hb dX10_sure_5 rfl (lv_at hl 0 rfl) ?_
  refine lv_iload_n hx hb dX10_sure_6 rfl (lv_at hl 1 rfl) ?_
  refine lv_i2l (v := a0.toInt64) hx hb dX10_sure_7 rfl ?_
  refine cvS (n := 1) (As := [.long a0.toInt64]) (rest := []) ⟨hx, hb, hml, hown, hts⟩ uc_in (kX10_isDay_0 l D C A u1 hI a0.toInt64 A0 (tt_i2l ha0)) q_m1473 q_n1475 q_p73 q_i11 q_c1476 hvX10_isDay ⟨(Nat.le_of_ble_eq_true rfl), (Nat.le_of_ble_eq_true rfl)⟩ ⟨(Nat.le_of_ble_eq_true rfl), (Nat.le_of_ble_eq_true rfl)⟩ hK hH.1 10 0 rfl (mwc0 C A u1) rfl hl.1 rfl (Nat.le_of_ble_eq_true rfl) dX10_sure_8 (fun r2 p3 => ?_)
  rcases p3 with ⟨e9, f4, f5⟩ | e9
  · subst e9
    have b7 : 0 ≤ ((ga u1 7 0)).toInt ∧ ((ga u1 7 0)).toInt ≤ 7 := hI.has 0
    refine lv_if_eq (tgt := 26) hx hb dX10_sure_11 (by decide) (fun c8 => absurd c8 (by decide)) (fun c8 => ?_)
    refine lv_iload_n hx hb dX10_sure_14 rfl (lv_at hl 2 rfl) ?_
    refine lv_i2l (v := a1.toInt64) hx hb dX10_sure_15 rfl ?_
    refine lv_lconst (v := 0) hx hb dX10_sure_16 (by decide) ?_
    refine lv_ldc2 (v := 100) hx hb hown (hts _ (uc_in _ q_k1836)) dX10_sure_17 ?_
    refine csS (n := 3) (As := [.long a1.toInt64, .long 0, .long 100]) (rest := []) ⟨hx, hb, hml, hown, hts⟩ uc_in (kX10_in_0 l D C A u1 hI a1.toInt64 A1 (tt_i2l ha1) (0) 0 (by decide) (100) 100 (by decide)) q_m1324 q_s1325 q_i11 q_c1326 hvX10_in ⟨(Nat.le_of_ble_eq_true rfl), (Nat.le_of_ble_eq_true rfl)⟩ ⟨(Nat.le_of_ble_eq_true rfl), (Nat.le_of_ble_eq_true rfl)⟩ hK hH.1 rfl hl.1 rfl (Nat.le_of_ble_eq_true rfl) dX10_sure_20 (fun r9 p10 => ?_)
    rcases p10 with ⟨e9, f11, f12⟩ | ⟨e9, fn13⟩
    · subst e9
      refine lv_if_ne (tgt := 29) hx hb dX10_sure_23 (by decide) (fun c14 => ?_) (fun c14 => absurd c14 (by decide))
      refine lv_aload_n hx hb dX10_sure_29 rfl (lv_at hl 0 rfl) ?_
      refine cvU (n := 0) (As := []) (rest := []) ⟨hx, hb, hml, hown, hts⟩ uc_in (kX10_lays_0 l D C A u1 hI  _) q_m1481 q_n1483 q_p75 q_i11 q_c1484 hvX10_lays ⟨(Nat.le_of_ble_eq_true rfl), (Nat.le_of_ble_eq_true rfl)⟩ ⟨(Nat.le_of_ble_eq_true rfl), (Nat.le_of_ble_eq_true rfl)⟩ hK hH (fun q h => Or.inr h) Bl0 (fun _ _ _ => trivial) 10 0 rfl (mwc0 C A u1) rfl hl.1 rfl (Nat.le_of_ble_eq_true rfl) dX10_sure_30 (fun u15 H locs p17 hH => ?_)
      obtain ⟨hI, hUu15, p17⟩ := p17
      refine lv_iconst (v := 0) hx hb dX10_sure_33 (by decide) ?_
      refine lv_istore_n (lv' := [(3, .int 0), (0, .ref (A 0)), (1, .int a0), (2, .int a1)]) hx hb dX10_sure_34 rfl hl (by decide) rfl (fun ls hl => ?_)
      have lp35_169 : ∀ (n35 : Nat) (ls : Array Slot) (y168d : Int32) (u169 : St) (H : Heap) (locs : List Loc), 0 ≤ y168d.toInt → y168d.toInt ≤ 601 → 601 - y168d.toInt < (n35 : Int) → Un [(41, 41)] [] [] u15 u169 → IM u169 → Hd D (mw C A) (va_A (mw C A u) s.heap.size) s.heap u169 H locs → lv_has ls 4 [(3, .int y168d), (0, .ref (A 0)), (1, .int a0), (2, .int a1)] → W p l e (rmL 4 0 0) s m ar below meth c H locs 0 0 Q (F0 m 35 ls []) := by
        intro n35
        induction n35 with
        | zero => intro ls y168d u169 H locs ly168d my168d hmun35 hUu169 hI hH hl; exfalso; omega
        | succ n35 ih35_169 =>
          intro ls y168d u169 H locs ly168d my168d hmun35 hUu169 hI hH hl
          refine lv_iload_n hx hb dX10_sure_35 rfl (lv_at hl 0 rfl) ?_
          refine lv_sipush (v := 600) hx hb dX10_sure_36 (by decide) ?_
          refine lv_icmp_gt (tgt := 73) hx hb dX10_sure_39 (by decide) (fun c171 => ?_) (fun c171 => ?_)
          · have c171 := cLT (x := 600) (y := y168d) (X := 600) (Y := y168d.toInt) (by decide) rfl c171
            refine lv_iconst (v := (-1)) hx hb dX10_sure_73 (by decide) ?_
            exact hret _ _ _ _ ((-1) : Int32) _ dX10_sure_74 rfl ⟨hI, (Un.tr (Un.tr (Un.si Un.rf rfl eu1) hUu15 rfl rfl rfl) hUu169 rfl rfl rfl), ⟨by decide, by decide⟩⟩ hH
          · have c171 := cNLT (x := 600) (y := y168d) (X := 600) (Y := y168d.toInt) (by decide) rfl c171
            refine lv_ldc2 (v := 100) hx hb hown (hts _ (uc_in _ q_k1836)) dX10_sure_42 ?_
            refine lv_aload_n hx hb dX10_sure_45 rfl (lv_at hl 1 rfl) ?_
            refine lv_iload_n hx hb dX10_sure_46 rfl (lv_at hl 2 rfl) ?_
            refine lv_iload_n hx hb dX10_sure_47 rfl (lv_at hl 0 rfl) ?_
            refine cvI (n := 2) (As := [.int a0, .int y168d]) (rest := [.long 100]) ⟨hx, hb, hml, hown, hts⟩ uc_in (kX10_chanceOf_0 l D C A u169 hI a0 A0 ha0 y168d y168d.toInt rfl (by omega) (by omega) _) q_m1828 q_n1830 q_p108 q_i11 q_c1831 hvX10_chanceOf ⟨(Nat.le_of_ble_eq_true rfl), (Nat.le_of_ble_eq_true rfl)⟩ ⟨(Nat.le_of_ble_eq_true rfl), (Nat.le_of_ble_eq_true rfl)⟩ hK hH (fun q h => Or.inr h) Bl0 (fun _ _ _ => trivial) 10 0 rfl (mwc0 C A u169) rfl hl.1 rfl (Nat.le_of_ble_eq_true rfl) dX10_sure_48 (fun r173 u172 H locs p174 hH => ?_)
            obtain ⟨hI, hUu172, p174⟩ := p174
            refine lv_i2l (v := r173.toInt64) hx hb dX10_sure_51 rfl ?_
            refine lv_lmul hx hb dX10_sure_52 ?_
            refine p_anyl (fun z175 => ?_)
            refine lv_iload_n hx hb dX10_sure_53 rfl (lv_at hl 3 rfl) ?_
            refine lv_i2l (v := a1.toInt64) hx hb dX10_sure_54 rfl ?_
            refine lv_aload_n hx hb dX10_sure_55 rfl (lv_at hl 1 rfl) ?_
            refine va_get (ci := 10) (v := .int (gi u172 41)) (C := RX10) (T := TX10) (N := 42) hx hb hts (fun w h => uc_in w (inX10 w h)) hown hK hH.1 0 (mwc0 C A u172) rfl 41 (by decide) (hts _ (uc_in _ q_f1229)) (fun _ h9 => h9) rfl dX10_sure_56 ?_
            have b176 := hI.b41
            refine lv_i2l (v := (gi u172 41).toInt64) hx hb dX10_sure_59 rfl ?_
            refine lv_lmul hx hb dX10_sure_60 ?_
            refine p_anyl (fun z177 => ?_)
            refine W.lcmp hx hb dX10_sure_61 ?_
            refine lv_if_lt (tgt := 67) hx hb dX10_sure_62 (by decide) (fun c178 => ?_) (fun c178 => ?_)
            · have c178 := dLT (X := z175.toInt) (Y := z177.toInt) rfl rfl c178
              obtain ⟨z179, ez179⟩ : ∃ z, z = y168d + Int32.ofInt 1 := ⟨_, rfl⟩
              have hz179 : z179.toInt = y168d.toInt + 1 := by rw [ez179]; exact tt_add rfl (by decide) (by omega) (by omega)
              refine lv_iinc (v := z179) (lv' := [(3, .int z179), (0, .ref (A 0)), (1, .int a0), (2, .int a1)]) hx hb dX10_sure_67 hl (k := 0) rfl ez179.symm (by decide) rfl (fun ls hl => ?_)
              refine lv_goto (tgt := 35) hx hb dX10_sure_70 (by decide) ?_
              exact ih35_169 ls z179 u172 _ _ (by have q9 := (show z179.toInt = (y168d.toInt + 1) from hz179); omega) (by have q9 := (show z179.toInt = (y168d.toInt + 1) from hz179); omega) (by have q9 := (show z179.toInt = (y168d.toInt + 1) from hz179); omega) (Un.tr hUu169 hUu172 rfl rfl rfl) hI hH hl
            · have c178 := dNLT (X := z175.toInt) (Y := z177.toInt) rfl rfl c178
              refine lv_iload_n hx hb dX10_sure_65 rfl (lv_at hl 0 rfl) ?_
              exact hret _ _ _ _ y168d _ dX10_sure_66 rfl ⟨hI, (Un.tr (Un.tr (Un.tr (Un.si Un.rf rfl eu1) hUu15 rfl rfl rfl) hUu169 rfl rfl rfl) hUu172 rfl rfl rfl), ⟨by omega, by omega⟩⟩ hH
      exact lp35_169 602 ls 0 u15 _ _ (by decide) (by decide) (by have q9 : (0 : Int32).toInt = 0 := (by decide); omega) Un.rf hI hH hl
    · subst e9
      refine lv_if_ne (tgt := 29) hx hb dX10_sure_23 (by decide) (fun c180 => absurd c180 (by decide)) (fun c180 => ?_)
      refine lv_bipush (v := (-2)) hx hb dX10_sure_26 (by decide) ?_
      exact hret _ _ _ _ ((-2) : Int32) _ dX10_sure_28 rfl ⟨hI, (Un.si Un.rf rfl eu1), ⟨by decide, by decide⟩⟩ hH
  · subst e9
    refine lv_if_eq (tgt := 26) hx hb dX10_sure_11 (by decide) (fun c181 => ?_) (fun c181 => absurd c181 (by decide))
    refine lv_bipush (v := (-2)) hx hb dX10_sure_26 (by decide) ?_
    exact hret _ _ _ _ ((-2) : Int32) _ dX10_sure_28 rfl ⟨hI, (Un.si Un.rf rfl eu1), ⟨by decide, by decide⟩⟩ hH
set_option maxHeartbeats 4000000 in
set_option maxRecDepth 100000 in
theorem kX10_surely_0 (l : Launch) (D : va_G) (C : Nat → ClassId) (A : Nat → Nat) (u : St) (hI : IM u) (a0 : Int32) (A0 : Int) (ha0 : a0.toInt = A0) (sz : Nat) : MetI l yX10_surely cX10_surely 5 (some .int) 5 [.ref (A 0), .int a0] D (tyl C) (mw C A) X0 u sz (fun r u' => IM u' ∧ Un [(0, 0), (24, 24), (25, 25), (39, 39), (40, 40)] [(12, 12), (13, 13), (18, 18)] [] u u' ∧ ((-6) ≤ r.toInt ∧ r.toInt ≤ 63)) := by
  refine mI (by decide) (Nat.le_of_ble_eq_true rfl) ?_
  intro p e s m below meth c ls ar Q hx hb hml hown hts hK hH hX hl hret
  have hown : s.vm.findClass RX10 = some m.cls := hown
  have hl : lv_has ls 5 [(0, .ref (A 0)), (1, .int a0)] := hl
  refine lv_aload_n hx hb dX10_surely_0 rfl (lv_at hl 0 rfl) ?_
  refine lv_iconst (v := 0) hx hb dX10_surely_1 (by decide) ?_
  refine r_put (j := 0) (ci := 10) (C := RX10) (T := TX10) (N := 42) hx hb hts (fun w h => uc_in w (inX10 w h)) tyX10 tyX10_ok nmX10 hown hK hH 0 (mwc0 C A u) rfl 0 (by decide) (hts _ (uc_in _ q_f1188)) (fun _ h9 => h9) rfl (by decide +kernel) (Nat.le_of_ble_eq_true rfl) (mws0 C A u _) dX10_surely_2 (fun u1 eu1 H locs hH => ?_)
  have hI := hI.pi0 eu1 rfl
  refine lv_aload_n hx hb dX10_surely_5 rfl (lv_at hl 0 rfl) ?_
  refine lv_iload_n hx hb dX10_surely_6 rfl (lv_at hl 1 rfl) ?_
  refine cvS (n := 1) (As := [.int a0]) (rest := []) ⟨hx, hb, hml, hown, hts⟩ uc_in (kX10_whyNot_0 l D C A u1 hI a0 A0 ha0) q_m1788 q_n1790 q_p104 q_i11 q_c1791 hvX10_whyNot ⟨(Nat.le_of_ble_eq_true rfl), (Nat.le_of_ble_eq_true rfl)⟩ ⟨(Nat.le_of_ble_eq_true rfl), (Nat.le_of_ble_eq_true rfl)⟩ hK hH.1 10 0 rfl (mwc0 C A u1) rfl hl.1 rfl (Nat.le_of_ble_eq_true rfl) dX10_surely_7 (fun r2 p3 => ?_)
  rcases p3 with p3 | ⟨e9, f4, f5, f6⟩
  · have p3 := p3
    refine lv_istore_n (lv' := [(2, .int r2), (0, .ref (A 0)), (1, .int a0)]) hx hb dX10_surely_10 rfl hl (by decide) rfl (fun ls hl => ?_)
    refine lv_iload_n hx hb dX10_surely_11 rfl (lv_at hl 0 rfl) ?_
    refine lv_if_eq (tgt := 17) hx hb dX10_surely_12 (by decide) (fun c7 => absurd (cEQ (x := r2) (y := 0) (X := r2.toInt) (Y := 0) rfl (by decide) c7) (by omega)) (fun c7 => ?_)
    refine lv_iload_n hx hb dX10_surely_15 rfl (lv_at hl 0 rfl) ?_
    exact hret _ _ _ _ r2 _ dX10_surely_16 rfl ⟨hI, (Un.si Un.rf rfl eu1), ⟨by omega, by omega⟩⟩ hH
  · subst e9
    refine lv_istore_n (lv' := [(2, .int 0), (0, .ref (A 0)), (1, .int a0)]) hx hb dX10_surely_10 rfl hl (by decide) rfl (fun ls hl => ?_)
    refine lv_iload_n hx hb dX10_surely_11 rfl (lv_at hl 0 rfl) ?_
    refine lv_if_eq (tgt := 17) hx hb dX10_surely_12 (by decide) (fun c8 => ?_) (fun c8 => absurd c8 (by decide))
    refine lv_aload_n hx hb dX10_surely_17 rfl (lv_at hl 1 rfl) ?_
    refine lv_iload_n hx hb dX10_surely_18 rfl (lv_at hl 2 rfl) ?_
    refine cvU (n := 1) (As := [.int a0]) (rest := []) ⟨hx, hb, hml, hown, hts⟩ uc_in (kX10_laysAway_0 l D C A u1 hI a0 A0 ha0 (by omega) (by omega) f6 _) q_m1792 q_n1794 q_p105 q_i11 q_c1795 hvX10_laysAway ⟨(Nat.le_of_ble_eq_true rfl), (Nat.le_of_ble_eq_true rfl)⟩ ⟨(Nat.le_of_ble_eq_true rfl), (Nat.le_of_ble_eq_true rfl)⟩ hK hH (fun q h => Or.inr h) Bl0 (fun _ _ _ => trivial) 10 0 rfl (mwc0 C A u1) rfl hl.1 rfl (Nat.le_of_ble_eq_true rfl) dX10_surely_19 (fun u9 H locs p11 hH => ?_)
    obtain ⟨hI, hUu9, p11⟩ := p11
    refine lv_aload_n hx hb dX10_surely_22 rfl (lv_at hl 1 rfl) ?_
    refine va_get (ci := 10) (v := .int (gi u9 39)) (C := RX10) (T := TX10) (N := 42) hx hb hts (fun w h => uc_in w (inX10 w h)) hown hK hH.1 0 (mwc0 C A u9) rfl 39 (by decide) (hts _ (uc_in _ q_f1227)) (fun _ h9 => h9) rfl dX10_surely_23 ?_
    refine lv_if_ne (tgt := 31) hx hb dX10_surely_26 (by decide) (fun c12 => ?_) (fun c12 => ?_)
    · refine lv_iconst (v := 0) hx hb dX10_surely_31 (by decide) ?_
      refine lv_istore_n (lv' := [(3, .int 0), (2, .int 0), (0, .ref (A 0)), (1, .int a0)]) hx hb dX10_surely_32 rfl hl (by decide) rfl (fun ls hl => ?_)
      refine lv_iconst (v := 0) hx hb dX10_surely_33 (by decide) ?_
      refine lv_istore (lv' := [(4, .int 0), (3, .int 0), (2, .int 0), (0, .ref (A 0)), (1, .int a0)]) hx hb dX10_surely_34 hl (by decide) rfl (fun ls hl => ?_)
      have lp36_89 : ∀ (n36 : Nat) (ls : Array Slot) (y88d : Int32) (y89d : Int32), 0 ≤ y88d.toInt → y88d.toInt ≤ 6 → 0 ≤ y89d.toInt → y89d.toInt ≤ 63 → 6 - y88d.toInt < (n36 : Int) → lv_has ls 5 [(4, .int y88d), (3, .int y89d), (0, .ref (A 0))] → W p l e (rmL 5 0 0) s m ar below meth c H locs 0 0 Q (F0 m 36 ls []) := by
        intro n36
        induction n36 with
        | zero => intro ls y88d y89d ly88d my88d ly89d my89d hmun36 hl; exfalso; omega
        | succ n36 ih36_89 =>
          intro ls y88d y89d ly88d my88d ly89d my89d hmun36 hl
          refine lv_iload hx hb dX10_surely_36 (lv_at hl 0 rfl) ?_
          refine lv_aload_n hx hb dX10_surely_38 rfl (lv_at hl 2 rfl) ?_
          refine cvS (n := 0) (As := []) (rest := [.int y88d]) ⟨hx, hb, hml, hown, hts⟩ uc_in (kX10_clocks_0 l D C A u9 hI ) q_m1464 q_n1466 q_p72 q_i11 q_c1467 hvX10_clocks ⟨(Nat.le_of_ble_eq_true rfl), (Nat.le_of_ble_eq_true rfl)⟩ ⟨(Nat.le_of_ble_eq_true rfl), (Nat.le_of_ble_eq_true rfl)⟩ hK hH.1 10 0 rfl (mwc0 C A u9) rfl hl.1 rfl (Nat.le_of_ble_eq_true rfl) dX10_surely_39 (fun r91 p92 => ?_)
          subst p92
          have b93 : 0 ≤ ((ga u9 7 3)).toInt ∧ ((ga u9 7 3)).toInt ≤ 6 := hI.has 3
          refine lv_icmp_ge (tgt := 76) hx hb dX10_surely_42 (by decide) (fun c94 => ?_) (fun c94 => ?_)
          · have c94 := cLE (x := (ga u9 7 3)) (y := y88d) (X := ((ga u9 7 3)).toInt) (Y := y88d.toInt) rfl rfl c94
            refine lv_iload_n hx hb dX10_surely_76 rfl (lv_at hl 1 rfl) ?_
            exact hret _ _ _ _ y89d _ dX10_surely_77 rfl ⟨hI, (Un.tr (Un.si Un.rf rfl eu1) hUu9 rfl rfl rfl), ⟨by omega, by omega⟩⟩ hH
          · have c94 := cNLE (x := (ga u9 7 3)) (y := y88d) (X := ((ga u9 7 3)).toInt) (Y := y88d.toInt) rfl rfl c94
            refine lv_iload_n hx hb dX10_surely_45 rfl (lv_at hl 1 rfl) ?_
            refine lv_aload_n hx hb dX10_surely_46 rfl (lv_at hl 2 rfl) ?_
            refine va_get (ci := 10) (v := .ref (A 18)) (C := RX10) (T := TX10) (N := 42) hx hb hts (fun w h => uc_in w (inX10 w h)) hown hK hH.1 0 (mwc0 C A u9) rfl 38 (by decide) (hts _ (uc_in _ q_f1226)) (fun _ h9 => h9) rfl dX10_surely_47 ?_
            refine lv_iload hx hb dX10_surely_50 (lv_at hl 0 rfl) ?_
            refine va_iald hx hb hK hH.1 18 1 (mwc18 C A u9) rfl (i_ix rfl (by omega) (by omega)) dX10_surely_52 ?_
            refine p_any (fun z95 => ?_)
            refine lv_aload_n hx hb dX10_surely_53 rfl (lv_at hl 2 rfl) ?_
            refine va_get (ci := 10) (v := .int (gi u9 39)) (C := RX10) (T := TX10) (N := 42) hx hb hts (fun w h => uc_in w (inX10 w h)) hown hK hH.1 0 (mwc0 C A u9) rfl 39 (by decide) (hts _ (uc_in _ q_f1227)) (fun _ h9 => h9) rfl dX10_surely_54 ?_
            have j68_103 : ∀ (ls : Array Slot) (y99d : Int32), 0 ≤ y99d.toInt → y99d.toInt ≤ 32 → lv_has ls 5 [(4, .int y88d), (0, .ref (A 0))] → W p l e (rmL 5 0 0) s m ar below meth c H locs 0 0 Q (F0 m 68 ls [.int y99d, .int y89d]) := by
              intro ls y99d ly99d my99d hl
              refine lv_ior hx hb dX10_surely_68 ?_
              have gz105 := tt_or (x := y89d) (y := y99d) (X := y89d.toInt) (Y := y99d.toInt) rfl rfl 6 (by decide) (by omega) (by omega) (by omega) (by omega)
              refine p_bd (P := fun q => 0 ≤ q ∧ q ≤ 63) ⟨by omega, by omega⟩ (fun z106 bz106 => ?_)
              have bz106 : 0 ≤ z106.toInt ∧ z106.toInt ≤ 63 := bz106
              refine lv_istore_n (lv' := [(3, .int z106), (4, .int y88d), (0, .ref (A 0))]) hx hb dX10_surely_69 rfl hl (by decide) rfl (fun ls hl => ?_)
              obtain ⟨z107, ez107⟩ : ∃ z, z = y88d + Int32.ofInt 1 := ⟨_, rfl⟩
              have hz107 : z107.toInt = y88d.toInt + 1 := by rw [ez107]; exact tt_add rfl (by decide) (by omega) (by omega)
              refine lv_iinc (v := z107) (lv' := [(4, .int z107), (3, .int z106), (0, .ref (A 0))]) hx hb dX10_surely_70 hl (k := 1) rfl ez107.symm (by decide) rfl (fun ls hl => ?_)
              refine lv_goto (tgt := 36) hx hb dX10_surely_73 (by decide) ?_
              exact ih36_89 ls z107 z106 (by have q9 := (show z107.toInt = (y88d.toInt + 1) from hz107); omega) (by have q9 := (show z107.toInt = (y88d.toInt + 1) from hz107); omega) (by omega) (by omega) (by have q9 := (show z107.toInt = (y88d.toInt + 1) from hz107); omega) hl
            refine lv_icmp_ne (tgt := 67) hx hb dX10_surely_57 (by decide) (fun c96 => ?_) (fun c96 => ?_)
            · refine lv_iconst (v := 0) hx hb dX10_surely_67 (by decide) ?_
              exact j68_103 ls 0 (by decide) (by decide) (lv_sub hl [0, 2] rfl)
            · have c96 := cEQ (x := z95) (y := (gi u9 39)) (X := z95.toInt) (Y := ((gi u9 39)).toInt) rfl rfl c96
              refine lv_iconst (v := 1) hx hb dX10_surely_60 (by decide) ?_
              refine lv_iload hx hb dX10_surely_61 (lv_at hl 0 rfl) ?_
              refine lv_ishl hx hb dX10_surely_63 ?_
              have gz108 := tt_shl1 (y := y88d) (Y := y88d.toInt) rfl (by omega) (by omega)
              refine p_bd (P := fun q => 1 ≤ q ∧ q ≤ 32) ⟨by omega, by omega⟩ (fun z109 bz109 => ?_)
              have bz109 : 1 ≤ z109.toInt ∧ z109.toInt ≤ 32 := bz109
              refine lv_goto (tgt := 68) hx hb dX10_surely_64 (by decide) ?_
              exact j68_103 ls z109 (by omega) (by omega) (lv_sub hl [0, 2] rfl)
      exact lp36_89 7 ls 0 0 (by decide) (by decide) (by decide) (by decide) (by have q9 : (0 : Int32).toInt = 0 := (by decide); omega) (lv_sub hl [0, 1, 3] rfl)
    · have c12 := cEQ (x := (gi u9 39)) (y := 0) (X := ((gi u9 39)).toInt) (Y := 0) rfl (by decide) c12
      refine lv_iconst (v := (-1)) hx hb dX10_surely_29 (by decide) ?_
      exact hret _ _ _ _ ((-1) : Int32) _ dX10_surely_30 rfl ⟨hI, (Un.tr (Un.si Un.rf rfl eu1) hUu9 rfl rfl rfl), ⟨by decide, by decide⟩⟩ hH
