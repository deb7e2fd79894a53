set_option maxHeartbeats 4000000 in
set_option maxRecDepth 100000 in
theorem kX10_tolls_0 (l : Launch) (D : va_G) (C : Nat → ClassId) (A : Nat → Nat) (u : St) (hI : IM u) (a0 : Int32) (A0 : Int) (ha0 : a0.toInt = A0) (sz : Nat) : MetI l yX10_tolls cX10_tolls 6 (some .int) 4 [.ref (A 0), .int a0] D (tyl C) (mw C A) X0 u sz (fun r u' => IM u' ∧ Un [(0, 0), (24, 24), (25, 25)] [(12, 12), (13, 13)] [] u u' ∧ (True)) := by
  refine mI (by decide) (Nat.le_of_ble_eq_true rfl) ?_
  intro p e s m below meth c ls ar Q hx hb hml hown hts hK hH hX hl hret
  have hown : s.vm.findClass RX10 = some m.cls := hown
  have hl : lv_has ls 6 [(0, .ref (A 0)), (1, .int a0)] := hl
  refine lv_aload_n hx hb dX10_tolls_0 rfl (lv_at hl 0 rfl) ?_
  refine lv_iconst (v := 0) hx hb dX10_tolls_1 (by decide) ?_
  refine r_put (j := 0) (ci := 10) (C := RX10) (T := TX10) (N := 42) hx hb hts (fun w h => uc_in w (inX10 w h)) tyX10 tyX10_ok nmX10 hown hK hH 0 (mwc0 C A u) rfl 0 (by decide) (hts _ (uc_in _ q_f1188)) (fun _ h9 => h9) rfl (by decide +kernel) (Nat.le_of_ble_eq_true rfl) (mws0 C A u _) dX10_tolls_2 (fun u1 eu1 H locs hH => ?_)
  have hI := hI.pi0 eu1 rfl
  refine lv_aload_n hx hb dX10_tolls_5 rfl (lv_at hl 0 rfl) ?_
  refine lv_iload_n hx hb dX10_tolls_6 rfl (lv_at hl 1 rfl) ?_
  refine lv_i2l (v := a0.toInt64) hx hb dX10_tolls_7 rfl ?_
  refine cvS (n := 1) (As := [.long a0.toInt64]) (rest := []) ⟨hx, hb, hml, hown, hts⟩ uc_in (kX10_isDay_0 l D C A u1 hI a0.toInt64 A0 (tt_i2l ha0)) q_m1473 q_n1475 q_p73 q_i11 q_c1476 hvX10_isDay ⟨(Nat.le_of_ble_eq_true rfl), (Nat.le_of_ble_eq_true rfl)⟩ ⟨(Nat.le_of_ble_eq_true rfl), (Nat.le_of_ble_eq_true rfl)⟩ hK hH.1 10 0 rfl (mwc0 C A u1) rfl hl.1 rfl (Nat.le_of_ble_eq_true rfl) dX10_tolls_8 (fun r2 p3 => ?_)
  rcases p3 with ⟨e9, f4, f5⟩ | e9
  · subst e9
    have b7 : 0 ≤ ((ga u1 7 0)).toInt ∧ ((ga u1 7 0)).toInt ≤ 7 := hI.has 0
    refine lv_if_ne (tgt := 17) hx hb dX10_tolls_11 (by decide) (fun c8 => ?_) (fun c8 => absurd c8 (by decide))
    refine lv_aload_n hx hb dX10_tolls_17 rfl (lv_at hl 0 rfl) ?_
    refine cvU (n := 0) (As := []) (rest := []) ⟨hx, hb, hml, hown, hts⟩ uc_in (kX10_lays_0 l D C A u1 hI  _) q_m1481 q_n1483 q_p75 q_i11 q_c1484 hvX10_lays ⟨(Nat.le_of_ble_eq_true rfl), (Nat.le_of_ble_eq_true rfl)⟩ ⟨(Nat.le_of_ble_eq_true rfl), (Nat.le_of_ble_eq_true rfl)⟩ hK hH (fun q h => Or.inr h) Bl0 (fun _ _ _ => trivial) 10 0 rfl (mwc0 C A u1) rfl hl.1 rfl (Nat.le_of_ble_eq_true rfl) dX10_tolls_18 (fun u9 H locs p11 hH => ?_)
    obtain ⟨hI, hUu9, p11⟩ := p11
    refine lv_iconst (v := 0) hx hb dX10_tolls_21 (by decide) ?_
    refine lv_istore_n (lv' := [(2, .int 0), (0, .ref (A 0)), (1, .int a0)]) hx hb dX10_tolls_22 rfl hl (by decide) rfl (fun ls hl => ?_)
    refine lv_iconst (v := 0) hx hb dX10_tolls_23 (by decide) ?_
    refine lv_istore_n (lv' := [(3, .int 0), (2, .int 0), (0, .ref (A 0)), (1, .int a0)]) hx hb dX10_tolls_24 rfl hl (by decide) rfl (fun ls hl => ?_)
    have lp25_1092 : ∀ (n25 : Nat) (ls : Array Slot) (y1091d : Int32) (y1092d : Int32), 0 ≤ y1091d.toInt → y1091d.toInt ≤ 6 → 6 - y1091d.toInt < (n25 : Int) → lv_has ls 6 [(3, .int y1091d), (2, .int y1092d), (0, .ref (A 0)), (1, .int a0)] → W p l e (rmL 4 0 0) s m ar below meth c H locs 0 0 Q (F0 m 25 ls []) := by
      intro n25
      induction n25 with
      | zero => intro ls y1091d y1092d ly1091d my1091d hmun25 hl; exfalso; omega
      | succ n25 ih25_1092 =>
        intro ls y1091d y1092d ly1091d my1091d hmun25 hl
        refine lv_iload_n hx hb dX10_tolls_25 rfl (lv_at hl 0 rfl) ?_
        refine lv_aload_n hx hb dX10_tolls_26 rfl (lv_at hl 2 rfl) ?_
        refine cvS (n := 0) (As := []) (rest := [.int y1091d]) ⟨hx, hb, hml, hown, hts⟩ uc_in (kX10_clocks_0 l D C A u9 hI ) q_m1464 q_n1466 q_p72 q_i11 q_c1467 hvX10_clocks ⟨(Nat.le_of_ble_eq_true rfl), (Nat.le_of_ble_eq_true rfl)⟩ ⟨(Nat.le_of_ble_eq_true rfl), (Nat.le_of_ble_eq_true rfl)⟩ hK hH.1 10 0 rfl (mwc0 C A u9) rfl hl.1 rfl (Nat.le_of_ble_eq_true rfl) dX10_tolls_27 (fun r1094 p1095 => ?_)
        subst p1095
        have b1096 : 0 ≤ ((ga u9 7 3)).toInt ∧ ((ga u9 7 3)).toInt ≤ 6 := hI.has 3
        refine lv_icmp_ge (tgt := 126) hx hb dX10_tolls_30 (by decide) (fun c1097 => ?_) (fun c1097 => ?_)
        · have c1097 := cLE (x := (ga u9 7 3)) (y := y1091d) (X := ((ga u9 7 3)).toInt) (Y := y1091d.toInt) rfl rfl c1097
          refine lv_iload_n hx hb dX10_tolls_126 rfl (lv_at hl 1 rfl) ?_
          exact hret _ _ _ _ y1092d _ dX10_tolls_127 rfl ⟨hI, (Un.tr (Un.si Un.rf rfl eu1) hUu9 rfl rfl rfl), trivial⟩ hH
        · have c1097 := cNLE (x := (ga u9 7 3)) (y := y1091d) (X := ((ga u9 7 3)).toInt) (Y := y1091d.toInt) rfl rfl c1097
          refine lv_aload_n hx hb dX10_tolls_33 rfl (lv_at hl 2 rfl) ?_
          refine va_get (ci := 10) (v := .ref (A 13)) (C := RX10) (T := TX10) (N := 42) hx hb hts (fun w h => uc_in w (inX10 w h)) hown hK hH.1 0 (mwc0 C A u9) rfl 23 (by decide) (hts _ (uc_in _ q_f1211)) (fun _ h9 => h9) rfl dX10_tolls_34 ?_
          refine lv_bipush (v := 6) hx hb dX10_tolls_37 (by decide) ?_
          refine lv_iload_n hx hb dX10_tolls_39 rfl (lv_at hl 3 rfl) ?_
          refine lv_imul hx hb dX10_tolls_40 ?_
          refine p_nm (tt_mul (X := 6) (Y := A0) (by decide) ha0 (by omega) (by omega)) (fun z1098 hz1098 => ?_)
          refine lv_iload_n hx hb dX10_tolls_41 rfl (lv_at hl 0 rfl) ?_
          refine lv_iadd hx hb dX10_tolls_42 ?_
          refine p_nm (tt_add (X := (6 * A0)) (Y := y1091d.toInt) hz1098 rfl (by omega) (by omega)) (fun z1099 hz1099 => ?_)
          refine va_zald hx hb hK hH.1 13 3 (mwc13 C A u9) rfl (i_ix hz1099 (by omega) (by omega)) dX10_tolls_43 ?_
          refine p_any (fun z1100 => ?_)
          have j69_1182 : ∀ (ls : Array Slot) (y1106d : Int32), 0 ≤ y1106d.toInt → y1106d.toInt ≤ 1 → lv_has ls 6 [(3, .int y1091d), (2, .int y1092d), (0, .ref (A 0)), (1, .int a0)] → W p l e (rmL 4 0 0) s m ar below meth c H locs 0 0 Q (F0 m 69 ls [.int y1106d]) := by
            intro ls y1106d ly1106d my1106d hl
            refine lv_istore (lv' := [(4, .int y1106d), (3, .int y1091d), (2, .int y1092d), (0, .ref (A 0)), (1, .int a0)]) hx hb dX10_tolls_69 hl (by decide) rfl (fun ls hl => ?_)
            refine lv_iconst (v := 0) hx hb dX10_tolls_71 (by decide) ?_
            refine lv_istore (lv' := [(5, .int 0), (4, .int y1106d), (3, .int y1091d), (2, .int y1092d), (0, .ref (A 0)), (1, .int a0)]) hx hb dX10_tolls_72 hl (by decide) rfl (fun ls hl => ?_)
            have lp74_1246 : ∀ (n74 : Nat) (ls : Array Slot) (y1245d : Int32) (y1246d : Int32), 0 ≤ y1245d.toInt → y1245d.toInt ≤ 5 → 0 ≤ y1246d.toInt → y1246d.toInt ≤ 1 → 5 - y1245d.toInt < (n74 : Int) → lv_has ls 6 [(5, .int y1245d), (4, .int y1246d), (3, .int y1091d), (2, .int y1092d), (0, .ref (A 0)), (1, .int a0)] → W p l e (rmL 4 0 0) s m ar below meth c H locs 0 0 Q (F0 m 74 ls []) := by
              intro n74
              induction n74 with
              | zero => intro ls y1245d y1246d ly1245d my1245d ly1246d my1246d hmun74 hl; exfalso; omega
              | succ n74 ih74_1246 =>
                intro ls y1245d y1246d ly1245d my1245d ly1246d my1246d hmun74 hl
                refine lv_iload hx hb dX10_tolls_74 (lv_at hl 0 rfl) ?_
                refine lv_iload_n hx hb dX10_tolls_76 rfl (lv_at hl 2 rfl) ?_
                refine lv_icmp_ge (tgt := 107) hx hb dX10_tolls_77 (by decide) (fun c1248 => ?_) (fun c1248 => ?_)
                · have c1248 := cLE (x := y1091d) (y := y1245d) (X := y1091d.toInt) (Y := y1245d.toInt) rfl rfl c1248
                  refine lv_iload_n hx hb dX10_tolls_107 rfl (lv_at hl 3 rfl) ?_
                  refine lv_iload hx hb dX10_tolls_108 (lv_at hl 1 rfl) ?_
                  have j118_1253 : ∀ (ls : Array Slot) (y1250d : Int32), 0 ≤ y1250d.toInt → y1250d.toInt ≤ 1 → lv_has ls 6 [(3, .int y1091d), (0, .ref (A 0)), (1, .int a0)] → W p l e (rmL 4 0 0) s m ar below meth c H locs 0 0 Q (F0 m 118 ls [.int y1250d, .int y1092d]) := by
                    intro ls y1250d ly1250d my1250d hl
                    refine lv_iadd hx hb dX10_tolls_118 ?_
                    refine p_any (fun z1255 => ?_)
                    refine lv_istore_n (lv' := [(2, .int z1255), (3, .int y1091d), (0, .ref (A 0)), (1, .int a0)]) hx hb dX10_tolls_119 rfl hl (by decide) rfl (fun ls hl => ?_)
                    obtain ⟨z1256, ez1256⟩ : ∃ z, z = y1091d + Int32.ofInt 1 := ⟨_, rfl⟩
                    have hz1256 : z1256.toInt = y1091d.toInt + 1 := by rw [ez1256]; exact tt_add rfl (by decide) (by omega) (by omega)
                    refine lv_iinc (v := z1256) (lv' := [(3, .int z1256), (2, .int z1255), (0, .ref (A 0)), (1, .int a0)]) hx hb dX10_tolls_120 hl (k := 1) rfl ez1256.symm (by decide) rfl (fun ls hl => ?_)
                    refine lv_goto (tgt := 25) hx hb dX10_tolls_123 (by decide) ?_
                    exact ih25_1092 ls z1256 z1255 (by have q9 := (show z1256.toInt = (y1091d.toInt + 1) from hz1256); omega) (by have q9 := (show z1256.toInt = (y1091d.toInt + 1) from hz1256); omega) (by have q9 := (show z1256.toInt = (y1091d.toInt + 1) from hz1256); omega) hl
                  refine lv_if_eq (tgt := 117) hx hb dX10_tolls_110 (by decide) (fun c1249 => ?_) (fun c1249 => ?_)
                  · have c1249 := cEQ (x := y1246d) (y := 0) (X := y1246d.toInt) (Y := 0) rfl (by decide) c1249
                    refine lv_iconst (v := 0) hx hb dX10_tolls_117 (by decide) ?_
                    exact j118_1253 ls 0 (by decide) (by decide) (lv_sub hl [2, 4, 5] rfl)
                  · have c1249 := cNE (x := y1246d) (y := 0) (X := y1246d.toInt) (Y := 0) rfl (by decide) c1249
                    refine lv_iconst (v := 1) hx hb dX10_tolls_113 (by decide) ?_
                    refine lv_goto (tgt := 118) hx hb dX10_tolls_114 (by decide) ?_
                    exact j118_1253 ls 1 (by decide) (by decide) (lv_sub hl [2, 4, 5] rfl)
                · have c1248 := cNLE (x := y1091d) (y := y1245d) (X := y1091d.toInt) (Y := y1245d.toInt) rfl rfl c1248
                  refine lv_iload hx hb dX10_tolls_80 (lv_at hl 1 rfl) ?_
                  refine lv_aload_n hx hb dX10_tolls_82 rfl (lv_at hl 4 rfl) ?_
                  refine lv_iload_n hx hb dX10_tolls_83 rfl (lv_at hl 5 rfl) ?_
                  refine lv_iload_n hx hb dX10_tolls_84 rfl (lv_at hl 2 rfl) ?_
                  refine lv_iload hx hb dX10_tolls_85 (lv_at hl 0 rfl) ?_
                  refine cvS (n := 3) (As := [.int a0, .int y1091d, .int y1245d]) (rest := [.int y1246d]) ⟨hx, hb, hml, hown, hts⟩ uc_in (kX10_isTogether_0 l D C A u9 hI a0 A0 ha0 y1091d y1091d.toInt rfl y1245d y1245d.toInt rfl (by omega) (by omega) (by omega) (by omega) (by omega) (by omega)) q_m1610 q_n1612 q_p89 q_i11 q_c1613 hvX10_isTogether ⟨(Nat.le_of_ble_eq_true rfl), (Nat.le_of_ble_eq_true rfl)⟩ ⟨(Nat.le_of_ble_eq_true rfl), (Nat.le_of_ble_eq_true rfl)⟩ hK hH.1 10 0 rfl (mwc0 C A u9) rfl hl.1 rfl (Nat.le_of_ble_eq_true rfl) dX10_tolls_87 (fun r1257 p1258 => ?_)
                  have p1258 : 0 ≤ r1257.toInt ∧ r1257.toInt ≤ 1 := p1258
                  have j98_1264 : ∀ (ls : Array Slot) (y1260d : Int32), 0 ≤ y1260d.toInt → y1260d.toInt ≤ 1 → lv_has ls 6 [(5, .int y1245d), (3, .int y1091d), (2, .int y1092d), (0, .ref (A 0)), (1, .int a0)] → W p l e (rmL 4 0 0) s m ar below meth c H locs 0 0 Q (F0 m 98 ls [.int y1260d, .int y1246d]) := by
                    intro ls y1260d ly1260d my1260d hl
                    refine lv_iand hx hb dX10_tolls_98 ?_
                    have gz1266 := tt_andR (x := y1246d) (y := y1260d) (Y := y1260d.toInt) rfl (by omega)
                    refine p_bd (P := fun q => 0 ≤ q ∧ q ≤ 1) ⟨by omega, by omega⟩ (fun z1267 bz1267 => ?_)
                    have bz1267 : 0 ≤ z1267.toInt ∧ z1267.toInt ≤ 1 := bz1267
                    refine lv_istore (lv' := [(4, .int z1267), (5, .int y1245d), (3, .int y1091d), (2, .int y1092d), (0, .ref (A 0)), (1, .int a0)]) hx hb dX10_tolls_99 hl (by decide) rfl (fun ls hl => ?_)
                    obtain ⟨z1268, ez1268⟩ : ∃ z, z = y1245d + Int32.ofInt 1 := ⟨_, rfl⟩
                    have hz1268 : z1268.toInt = y1245d.toInt + 1 := by rw [ez1268]; exact tt_add rfl (by decide) (by omega) (by omega)
                    refine lv_iinc (v := z1268) (lv' := [(5, .int z1268), (4, .int z1267), (3, .int y1091d), (2, .int y1092d), (0, .ref (A 0)), (1, .int a0)]) hx hb dX10_tolls_101 hl (k := 1) rfl ez1268.symm (by decide) rfl (fun ls hl => ?_)
                    refine lv_goto (tgt := 74) hx hb dX10_tolls_104 (by decide) ?_
                    exact ih74_1246 ls z1268 z1267 (by have q9 := (show z1268.toInt = (y1245d.toInt + 1) from hz1268); omega) (by have q9 := (show z1268.toInt = (y1245d.toInt + 1) from hz1268); omega) (by omega) (by omega) (by have q9 := (show z1268.toInt = (y1245d.toInt + 1) from hz1268); omega) hl
                  refine lv_if_ne (tgt := 97) hx hb dX10_tolls_90 (by decide) (fun c1259 => ?_) (fun c1259 => ?_)
                  · have c1259 := cNE (x := r1257) (y := 0) (X := r1257.toInt) (Y := 0) rfl (by decide) c1259
                    refine lv_iconst (v := 0) hx hb dX10_tolls_97 (by decide) ?_
                    exact j98_1264 ls 0 (by decide) (by decide) (lv_sub hl [0, 2, 3, 4, 5] rfl)
                  · have c1259 := cEQ (x := r1257) (y := 0) (X := r1257.toInt) (Y := 0) rfl (by decide) c1259
                    refine lv_iconst (v := 1) hx hb dX10_tolls_93 (by decide) ?_
                    refine lv_goto (tgt := 98) hx hb dX10_tolls_94 (by decide) ?_
                    exact j98_1264 ls 1 (by decide) (by decide) (lv_sub hl [0, 2, 3, 4, 5] rfl)
            exact lp74_1246 6 ls 0 y1106d (by decide) (by decide) (by omega) (by omega) (by have q9 : (0 : Int32).toInt = 0 := (by decide); omega) hl
          have j68_1269 : ∀ (ls : Array Slot), lv_has ls 6 [(3, .int y1091d), (2, .int y1092d), (0, .ref (A 0)), (1, .int a0)] → W p l e (rmL 4 0 0) s m ar below meth c H locs 0 0 Q (F0 m 68 ls []) := by
            intro ls hl
            refine lv_iconst (v := 0) hx hb dX10_tolls_68 (by decide) ?_
            exact j69_1182 ls 0 (by decide) (by decide) hl
          refine lv_if_eq (tgt := 68) hx hb dX10_tolls_44 (by decide) (fun c1101 => ?_) (fun c1101 => ?_)
          · have c1101 := cEQ (x := z1100) (y := 0) (X := z1100.toInt) (Y := 0) rfl (by decide) c1101
            exact j68_1269 ls hl
          · refine lv_aload_n hx hb dX10_tolls_47 rfl (lv_at hl 2 rfl) ?_
            refine va_get (ci := 10) (v := .ref (A 12)) (C := RX10) (T := TX10) (N := 42) hx hb hts (fun w h => uc_in w (inX10 w h)) hown hK hH.1 0 (mwc0 C A u9) rfl 22 (by decide) (hts _ (uc_in _ q_f1210)) (fun _ h9 => h9) rfl dX10_tolls_48 ?_
            refine lv_bipush (v := 6) hx hb dX10_tolls_51 (by decide) ?_
            refine lv_iload_n hx hb dX10_tolls_53 rfl (lv_at hl 3 rfl) ?_
            refine lv_imul hx hb dX10_tolls_54 ?_
            refine p_nm (tt_mul (X := 6) (Y := A0) (by decide) ha0 (by omega) (by omega)) (fun z1271 hz1271 => ?_)
            refine lv_iload_n hx hb dX10_tolls_55 rfl (lv_at hl 0 rfl) ?_
            refine lv_iadd hx hb dX10_tolls_56 ?_
            refine p_nm (tt_add (X := (6 * A0)) (Y := y1091d.toInt) hz1271 rfl (by omega) (by omega)) (fun z1272 hz1272 => ?_)
            refine va_iald hx hb hK hH.1 12 1 (mwc12 C A u9) rfl (i_ix hz1272 (by omega) (by omega)) dX10_tolls_57 ?_
            refine p_any (fun z1273 => ?_)
            refine lv_sipush (v := 10000) hx hb dX10_tolls_58 (by decide) ?_
            refine lv_icmp_eq (tgt := 68) hx hb dX10_tolls_61 (by decide) (fun c1274 => ?_) (fun c1274 => ?_)
            · have c1274 := cEQ (x := z1273) (y := 10000) (X := z1273.toInt) (Y := 10000) rfl (by decide) c1274
              exact j68_1269 ls hl
            · refine lv_iconst (v := 1) hx hb dX10_tolls_64 (by decide) ?_
              refine lv_goto (tgt := 69) hx hb dX10_tolls_65 (by decide) ?_
              exact j69_1182 ls 1 (by decide) (by decide) hl
    exact lp25_1092 7 ls 0 0 (by decide) (by decide) (by have q9 : (0 : Int32).toInt = 0 := (by decide); omega) hl
  · subst e9
    refine lv_if_ne (tgt := 17) hx hb dX10_tolls_11 (by decide) (fun c1275 => absurd c1275 (by decide)) (fun c1275 => ?_)
    refine lv_bipush (v := (-2)) hx hb dX10_tolls_14 (by decide) ?_
    exact hret _ _ _ _ ((-2) : Int32) _ dX10_tolls_16 rfl ⟨hI, (Un.si Un.rf rfl eu1), trivial⟩ hH
set_option maxHeartbeats 4000000 in
set_option maxRecDepth 100000 in
theorem kX10_under_0 (l : Launch) (D : va_G) (C : Nat → ClassId) (A : Nat → Nat) (u : St) (hI : IM u) (a0 : Int32) (A0 : Int) (ha0 : a0.toInt = A0) (sz : Nat) : MetI l yX10_under cX10_under 6 (some .int) 6 [.ref (A 0), .int a0] D (tyl C) (mw C A) X0 u sz (fun r u' => IM u' ∧ Un [(0, 0), (24, 24), (25, 25)] [(12, 12), (13, 13)] [] u u' ∧ (True)) := by
  refine mI (by decide) (Nat.le_of_ble_eq_true rfl) ?_
  intro p e s m below meth c ls ar Q hx hb hml hown hts hK hH hX hl hret
  have hown : s.vm.findClass RX10 = some m.cls := hown
  have hl : lv_has ls 6 [(0, .ref (A 0)), (1, .int a0)] := hl
  refine lv_aload_n hx hb dX10_under_0 rfl (lv_at hl 0 rfl) ?_
  refine lv_iconst (v := 0) hx hb dX10_under_1 (by decide) ?_
  refine r_put (j := 0) (ci := 10) (C := RX10) (T := TX10) (N := 42) hx hb hts (fun w h => uc_in w (inX10 w h)) tyX10 tyX10_ok nmX10 hown hK hH 0 (mwc0 C A u) rfl 0 (by decide) (hts _ (uc_in _ q_f1188)) (fun _ h9 => h9) rfl (by decide +kernel) (Nat.le_of_ble_eq_true rfl) (mws0 C A u _) dX10_under_2 (fun u1 eu1 H locs hH => ?_)
  have hI := hI.pi0 eu1 rfl
  refine lv_aload_n hx hb dX10_under_5 rfl (lv_at hl 0 rfl) ?_
  refine lv_iload_n hx hb dX10_under_6 rfl (lv_at hl 1 rfl) ?_
  refine cvS (n := 1) (As := [.int a0]) (rest := []) ⟨hx, hb, hml, hown, hts⟩ uc_in (kX10_whyNot_0 l D C A u1 hI a0 A0 ha0) q_m1788 q_n1790 q_p104 q_i11 q_c1791 hvX10_whyNot ⟨(Nat.le_of_ble_eq_true rfl), (Nat.le_of_ble_eq_true rfl)⟩ ⟨(Nat.le_of_ble_eq_true rfl), (Nat.le_of_ble_eq_true rfl)⟩ hK hH.1 10 0 rfl (mwc0 C A u1) rfl hl.1 rfl (Nat.le_of_ble_eq_true rfl) dX10_under_7 (fun r2 p3 => ?_)
  rcases p3 with p3 | ⟨e9, f4, f5, f6⟩
  · have p3 := p3
    refine lv_istore_n (lv' := [(2, .int r2), (0, .ref (A 0)), (1, .int a0)]) hx hb dX10_under_10 rfl hl (by decide) rfl (fun ls hl => ?_)
    refine lv_iload_n hx hb dX10_under_11 rfl (lv_at hl 0 rfl) ?_
    refine lv_if_eq (tgt := 17) hx hb dX10_under_12 (by decide) (fun c7 => absurd (cEQ (x := r2) (y := 0) (X := r2.toInt) (Y := 0) rfl (by decide) c7) (by omega)) (fun c7 => ?_)
    refine lv_iload_n hx hb dX10_under_15 rfl (lv_at hl 0 rfl) ?_
    exact hret _ _ _ _ r2 _ dX10_under_16 rfl ⟨hI, (Un.si Un.rf rfl eu1), trivial⟩ hH
  · subst e9
    refine lv_istore_n (lv' := [(2, .int 0), (0, .ref (A 0)), (1, .int a0)]) hx hb dX10_under_10 rfl hl (by decide) rfl (fun ls hl => ?_)
    refine lv_iload_n hx hb dX10_under_11 rfl (lv_at hl 0 rfl) ?_
    refine lv_if_eq (tgt := 17) hx hb dX10_under_12 (by decide) (fun c8 => ?_) (fun c8 => absurd c8 (by decide))
    refine lv_aload_n hx hb dX10_under_17 rfl (lv_at hl 1 rfl) ?_
    refine cvU (n := 0) (As := []) (rest := []) ⟨hx, hb, hml, hown, hts⟩ uc_in (kX10_lays_0 l D C A u1 hI  _) q_m1481 q_n1483 q_p75 q_i11 q_c1484 hvX10_lays ⟨(Nat.le_of_ble_eq_true rfl), (Nat.le_of_ble_eq_true rfl)⟩ ⟨(Nat.le_of_ble_eq_true rfl), (Nat.le_of_ble_eq_true rfl)⟩ hK hH (fun q h => Or.inr h) Bl0 (fun _ _ _ => trivial) 10 0 rfl (mwc0 C A u1) rfl hl.1 rfl (Nat.le_of_ble_eq_true rfl) dX10_under_18 (fun u9 H locs p11 hH => ?_)
    obtain ⟨hI, hUu9, p11⟩ := p11
    refine lv_iconst (v := 0) hx hb dX10_under_21 (by decide) ?_
    refine lv_istore_n (lv' := [(3, .int 0), (2, .int 0), (0, .ref (A 0)), (1, .int a0)]) hx hb dX10_under_22 rfl hl (by decide) rfl (fun ls hl => ?_)
    refine lv_iconst (v := 0) hx hb dX10_under_23 (by decide) ?_
    refine lv_istore (lv' := [(4, .int 0), (3, .int 0), (2, .int 0), (0, .ref (A 0)), (1, .int a0)]) hx hb dX10_under_24 hl (by decide) rfl (fun ls hl => ?_)
    have lp26_1196 : ∀ (n26 : Nat) (ls : Array Slot) (y1195d : Int32) (y1196d : Int32), 0 ≤ y1195d.toInt → y1195d.toInt ≤ 61 → 61 - y1195d.toInt < (n26 : Int) → lv_has ls 6 [(4, .int y1195d), (3, .int y1196d), (0, .ref (A 0)), (1, .int a0)] → W p l e (rmL 6 0 0) s m ar below meth c H locs 0 0 Q (F0 m 26 ls []) := by
      intro n26
      induction n26 with
      | zero => intro ls y1195d y1196d ly1195d my1195d hmun26 hl; exfalso; omega
      | succ n26 ih26_1196 =>
        intro ls y1195d y1196d ly1195d my1195d hmun26 hl
        refine lv_iload hx hb dX10_under_26 (lv_at hl 0 rfl) ?_
        refine lv_bipush (v := 60) hx hb dX10_under_28 (by decide) ?_
        refine lv_icmp_gt (tgt := 75) hx hb dX10_under_30 (by decide) (fun c1198 => ?_) (fun c1198 => ?_)
        · have c1198 := cLT (x := 60) (y := y1195d) (X := 60) (Y := y1195d.toInt) (by decide) rfl c1198
          refine lv_iload_n hx hb dX10_under_75 rfl (lv_at hl 1 rfl) ?_
          exact hret _ _ _ _ y1196d _ dX10_under_76 rfl ⟨hI, (Un.tr (Un.si Un.rf rfl eu1) hUu9 rfl rfl rfl), trivial⟩ hH
        · have c1198 := cNLT (x := 60) (y := y1195d) (X := 60) (Y := y1195d.toInt) (by decide) rfl c1198
          refine lv_iconst (v := 0) hx hb dX10_under_33 (by decide) ?_
          refine lv_istore (lv' := [(5, .int 0), (4, .int y1195d), (3, .int y1196d), (0, .ref (A 0)), (1, .int a0)]) hx hb dX10_under_34 hl (by decide) rfl (fun ls hl => ?_)
          have lp36_1287 : ∀ (n36 : Nat) (ls : Array Slot) (y1286d : Int32) (y1287d : Int32), 0 ≤ y1286d.toInt → y1286d.toInt ≤ 10 → 10 - y1286d.toInt < (n36 : Int) → lv_has ls 6 [(5, .int y1286d), (4, .int y1195d), (3, .int y1287d), (0, .ref (A 0)), (1, .int a0)] → W p l e (rmL 6 0 0) s m ar below meth c H locs 0 0 Q (F0 m 36 ls []) := by
            intro n36
            induction n36 with
            | zero => intro ls y1286d y1287d ly1286d my1286d hmun36 hl; exfalso; omega
            | succ n36 ih36_1287 =>
              intro ls y1286d y1287d ly1286d my1286d hmun36 hl
              refine lv_iload hx hb dX10_under_36 (lv_at hl 0 rfl) ?_
              refine lv_bipush (v := 9) hx hb dX10_under_38 (by decide) ?_
              refine lv_icmp_gt (tgt := 69) hx hb dX10_under_40 (by decide) (fun c1289 => ?_) (fun c1289 => ?_)
              · have c1289 := cLT (x := 9) (y := y1286d) (X := 9) (Y := y1286d.toInt) (by decide) rfl c1289
                obtain ⟨z1290, ez1290⟩ : ∃ z, z = y1195d + Int32.ofInt 1 := ⟨_, rfl⟩
                have hz1290 : z1290.toInt = y1195d.toInt + 1 := by rw [ez1290]; exact tt_add rfl (by decide) (by omega) (by omega)
                refine lv_iinc (v := z1290) (lv' := [(4, .int z1290), (5, .int y1286d), (3, .int y1287d), (0, .ref (A 0)), (1, .int a0)]) hx hb dX10_under_69 hl (k := 1) rfl ez1290.symm (by decide) rfl (fun ls hl => ?_)
                refine lv_goto (tgt := 26) hx hb dX10_under_72 (by decide) ?_
                exact ih26_1196 ls z1290 y1287d (by have q9 := (show z1290.toInt = (y1195d.toInt + 1) from hz1290); omega) (by have q9 := (show z1290.toInt = (y1195d.toInt + 1) from hz1290); omega) (by have q9 := (show z1290.toInt = (y1195d.toInt + 1) from hz1290); omega) (lv_sub hl [0, 2, 3, 4] rfl)
              · have c1289 := cNLT (x := 9) (y := y1286d) (X := 9) (Y := y1286d.toInt) (by decide) rfl c1289
                refine lv_iload_n hx hb dX10_under_43 rfl (lv_at hl 2 rfl) ?_
                refine lv_aload_n hx hb dX10_under_44 rfl (lv_at hl 3 rfl) ?_
                refine lv_iload_n hx hb dX10_under_45 rfl (lv_at hl 4 rfl) ?_
                refine lv_iload hx hb dX10_under_46 (lv_at hl 1 rfl) ?_
                refine lv_iload hx hb dX10_under_48 (lv_at hl 0 rfl) ?_
                refine cvS (n := 3) (As := [.int a0, .int y1195d, .int y1286d]) (rest := [.int y1287d]) ⟨hx, hb, hml, hown, hts⟩ uc_in (kX10_isUnder_0 l D C A u9 hI a0 A0 ha0 y1195d y1195d.toInt rfl y1286d y1286d.toInt rfl (by omega) (by omega) (RowOK.un (L := [(0, 0), (24, 24), (25, 25)]) (M := [(12, 12), (13, 13)]) (N := []) f6 (Un.tr Un.rf hUu9 rfl rfl rfl) rfl rfl)) q_m1816 q_n1818 q_p107 q_i11 q_c1819 hvX10_isUnder ⟨(Nat.le_of_ble_eq_true rfl), (Nat.le_of_ble_eq_true rfl)⟩ ⟨(Nat.le_of_ble_eq_true rfl), (Nat.le_of_ble_eq_true rfl)⟩ hK hH.1 10 0 rfl (mwc0 C A u9) rfl hl.1 rfl (Nat.le_of_ble_eq_true rfl) dX10_under_50 (fun r1291 p1292 => ?_)
                have p1292 : 0 ≤ r1291.toInt ∧ r1291.toInt ≤ 1 := p1292
                have j61_1297 : ∀ (ls : Array Slot) (y1294d : Int32), 0 ≤ y1294d.toInt → y1294d.toInt ≤ 1 → lv_has ls 6 [(5, .int y1286d), (4, .int y1195d), (0, .ref (A 0)), (1, .int a0)] → W p l e (rmL 6 0 0) s m ar below meth c H locs 0 0 Q (F0 m 61 ls [.int y1294d, .int y1287d]) := by
                  intro ls y1294d ly1294d my1294d hl
                  refine lv_iadd hx hb dX10_under_61 ?_
                  refine p_any (fun z1299 => ?_)
                  refine lv_istore_n (lv' := [(3, .int z1299), (5, .int y1286d), (4, .int y1195d), (0, .ref (A 0)), (1, .int a0)]) hx hb dX10_under_62 rfl hl (by decide) rfl (fun ls hl => ?_)
                  obtain ⟨z1300, ez1300⟩ : ∃ z, z = y1286d + Int32.ofInt 1 := ⟨_, rfl⟩
                  have hz1300 : z1300.toInt = y1286d.toInt + 1 := by rw [ez1300]; exact tt_add rfl (by decide) (by omega) (by omega)
                  refine lv_iinc (v := z1300) (lv' := [(5, .int z1300), (3, .int z1299), (4, .int y1195d), (0, .ref (A 0)), (1, .int a0)]) hx hb dX10_under_63 hl (k := 1) rfl ez1300.symm (by decide) rfl (fun ls hl => ?_)
                  refine lv_goto (tgt := 36) hx hb dX10_under_66 (by decide) ?_
                  exact ih36_1287 ls z1300 z1299 (by have q9 := (show z1300.toInt = (y1286d.toInt + 1) from hz1300); omega) (by have q9 := (show z1300.toInt = (y1286d.toInt + 1) from hz1300); omega) (by have q9 := (show z1300.toInt = (y1286d.toInt + 1) from hz1300); omega) (lv_sub hl [0, 2, 1, 3, 4] rfl)
                refine lv_if_eq (tgt := 60) hx hb dX10_under_53 (by decide) (fun c1293 => ?_) (fun c1293 => ?_)
                · have c1293 := cEQ (x := r1291) (y := 0) (X := r1291.toInt) (Y := 0) rfl (by decide) c1293
                  refine lv_iconst (v := 0) hx hb dX10_under_60 (by decide) ?_
                  exact j61_1297 ls 0 (by decide) (by decide) (lv_sub hl [0, 1, 3, 4] rfl)
                · have c1293 := cNE (x := r1291) (y := 0) (X := r1291.toInt) (Y := 0) rfl (by decide) c1293
                  refine lv_iconst (v := 1) hx hb dX10_under_56 (by decide) ?_
                  refine lv_goto (tgt := 61) hx hb dX10_under_57 (by decide) ?_
                  exact j61_1297 ls 1 (by decide) (by decide) (lv_sub hl [0, 1, 3, 4] rfl)
          exact lp36_1287 11 ls 0 y1196d (by decide) (by decide) (by have q9 : (0 : Int32).toInt = 0 := (by decide); omega) hl
    exact lp26_1196 62 ls 0 0 (by decide) (by decide) (by have q9 : (0 : Int32).toInt = 0 := (by decide); omega) (lv_sub hl [0, 1, 3, 4] rfl)
set_option maxHeartbeats 4000000 in
set_option maxRecDepth 100000 in
theorem kX10_undo_0 (l : Launch) (D : va_G) (C : Nat → ClassId) (A : Nat → Nat) (u : St) (hI : IM u) (sz : Nat) : MetI l yX10_undo cX10_undo 1 (some .int) 2 [.ref (A 0)] D (tyl C) (mw C A) X0 u sz (fun r u' => IM u' ∧ Un [(0, 0)] [(7, 7)] [] u u' ∧ ((-5) ≤ r.toInt ∧ r.toInt ≤ 39)) := by
  refine mI (by decide) (Nat.le_of_ble_eq_true rfl) ?_
  intro p e s m below meth c ls ar Q hx hb hml hown hts hK hH hX hl hret
  have hown : s.vm.findClass RX10 = some m.cls := hown
  have hl : lv_has ls 1 [(0, .ref (A 0))] := hl
  refine lv_aload_n hx hb dX10_undo_0 rfl (lv_at hl 0 rfl) ?_
  refine lv_iconst (v := 0) hx hb dX10_undo_1 (by decide) ?_
  refine r_put (j := 0) (ci := 10) (C := RX10) (T := TX10) (N := 42) hx hb hts (fun w h => uc_in w (inX10 w h)) tyX10 tyX10_ok nmX10 hown hK hH 0 (mwc0 C A u) rfl 0 (by decide) (hts _ (uc_in _ q_f1188)) (fun _ h9 => h9) rfl (by decide +kernel) (Nat.le_of_ble_eq_true rfl) (mws0 C A u _) dX10_undo_2 (fun u1 eu1 H locs hH => ?_)
  have hI := hI.pi0 eu1 rfl
  refine lv_aload_n hx hb dX10_undo_5 rfl (lv_at hl 0 rfl) ?_
  refine cvS (n := 0) (As := []) (rest := []) ⟨hx, hb, hml, hown, hts⟩ uc_in (kX10_isTown_0 l D C A u1 hI ) q_m1554 q_n1556 q_p84 q_i11 q_c1557 hvX10_isTown ⟨(Nat.le_of_ble_eq_true rfl), (Nat.le_of_ble_eq_true rfl)⟩ ⟨(Nat.le_of_ble_eq_true rfl), (Nat.le_of_ble_eq_true rfl)⟩ hK hH.1 10 0 rfl (mwc0 C A u1) rfl hl.1 rfl (Nat.le_of_ble_eq_true rfl) dX10_undo_6 (fun r2 p3 => ?_)
  have p3 : 0 ≤ r2.toInt ∧ r2.toInt ≤ 1 := p3
  refine lv_if_ne (tgt := 15) hx hb dX10_undo_9 (by decide) (fun c4 => ?_) (fun c4 => ?_)
  · have c4 := cNE (x := r2) (y := 0) (X := r2.toInt) (Y := 0) rfl (by decide) c4
    refine lv_aload_n hx hb dX10_undo_15 rfl (lv_at hl 0 rfl) ?_
    refine va_get (ci := 10) (v := .ref (A 7)) (C := RX10) (T := TX10) (N := 42) hx hb hts (fun w h => uc_in w (inX10 w h)) hown hK hH.1 0 (mwc0 C A u1) rfl 17 (by decide) (hts _ (uc_in _ q_f1205)) (fun _ h9 => h9) rfl dX10_undo_16 ?_
    refine lv_iconst (v := 5) hx hb dX10_undo_19 (by decide) ?_
    refine va_iald hx hb hK hH.1 7 1 (mwc7 C A u1) rfl (i_ix (X := 5) (by decide) (by decide) (by decide)) dX10_undo_20 ?_
    refine pv_i (v := (ga u1 7 5)) rfl ?_
    have b5 : 0 ≤ ((ga u1 7 5)).toInt ∧ ((ga u1 7 5)).toInt ≤ 40 := hI.has 5
    refine lv_if_ne (tgt := 27) hx hb dX10_undo_21 (by decide) (fun c6 => ?_) (fun c6 => ?_)
    · have c6 := cNE (x := (ga u1 7 5)) (y := 0) (X := ((ga u1 7 5)).toInt) (Y := 0) rfl (by decide) c6
      refine lv_aload_n hx hb dX10_undo_27 rfl (lv_at hl 0 rfl) ?_
      refine va_get (ci := 10) (v := .ref (A 7)) (C := RX10) (T := TX10) (N := 42) hx hb hts (fun w h => uc_in w (inX10 w h)) hown hK hH.1 0 (mwc0 C A u1) rfl 17 (by decide) (hts _ (uc_in _ q_f1205)) (fun _ h9 => h9) rfl dX10_undo_28 ?_
      refine lv_iconst (v := 5) hx hb dX10_undo_31 (by decide) ?_
      refine lv_dup2_11 hx hb dX10_undo_32 rfl rfl ?_
      refine va_iald hx hb hK hH.1 7 1 (mwc7 C A u1) rfl (i_ix (X := 5) (by decide) (by decide) (by decide)) dX10_undo_33 ?_
      refine pv_i (v := (ga u1 7 5)) rfl ?_
      refine lv_iconst (v := 1) hx hb dX10_undo_34 (by decide) ?_
      refine lv_isub hx hb dX10_undo_35 ?_
      refine p_nm (tt_sub (X := ((ga u1 7 5)).toInt) (Y := 1) rfl (by decide) (by omega) (by omega)) (fun z7 hz7 => ?_)
      refine r_iast (j := 7) hx hb hK hH 7 1 (mwc7 C A u1) rfl (i_ix (X := 5) (by decide) (by decide) (by decide)) (mwa7 C A u1) dX10_undo_36 (fun u8 eu8 H locs hH => ?_)
      have hI := hI.pah eu8 hz7 (by omega) (show (((ga u1 7 5)).toInt - 1) ≤ 40 by omega)
      refine lv_aload_n hx hb dX10_undo_37 rfl (lv_at hl 0 rfl) ?_
      refine va_get (ci := 10) (v := .ref (A 7)) (C := RX10) (T := TX10) (N := 42) hx hb hts (fun w h => uc_in w (inX10 w h)) hown hK hH.1 0 (mwc0 C A u8) rfl 17 (by decide) (hts _ (uc_in _ q_f1205)) (fun _ h9 => h9) rfl dX10_undo_38 ?_
      refine lv_iconst (v := 5) hx hb dX10_undo_41 (by decide) ?_
      refine va_iald hx hb hK hH.1 7 1 (mwc7 C A u8) rfl (i_ix (X := 5) (by decide) (by decide) (by decide)) dX10_undo_42 ?_
      refine pv_i (v := z7) (ga_el eu8) ?_
      exact hret _ _ _ _ z7 _ dX10_undo_43 rfl ⟨hI, (Un.sa (Un.si Un.rf rfl eu1) rfl eu8), ⟨by have q9 := (show z7.toInt = (((ga u1 7 5)).toInt - 1) from hz7); omega, by have q9 := (show z7.toInt = (((ga u1 7 5)).toInt - 1) from hz7); omega⟩⟩ hH
    · have c6 := cEQ (x := (ga u1 7 5)) (y := 0) (X := ((ga u1 7 5)).toInt) (Y := 0) rfl (by decide) c6
      refine lv_bipush (v := (-5)) hx hb dX10_undo_24 (by decide) ?_
      exact hret _ _ _ _ ((-5) : Int32) _ dX10_undo_26 rfl ⟨hI, (Un.si Un.rf rfl eu1), ⟨by decide, by decide⟩⟩ hH
  · have c4 := cEQ (x := r2) (y := 0) (X := r2.toInt) (Y := 0) rfl (by decide) c4
    refine lv_bipush (v := (-2)) hx hb dX10_undo_12 (by decide) ?_
    exact hret _ _ _ _ ((-2) : Int32) _ dX10_undo_14 rfl ⟨hI, (Un.si Un.rf rfl eu1), ⟨by decide, by decide⟩⟩ hH
set_option maxHeartbeats 4000000 in
set_option maxRecDepth 100000 in
theorem kX10_waits_0 (l : Launch) (D : va_G) (C : Nat → ClassId) (A : Nat → Nat) (u : St) (hI : IM u) (sz : Nat) : MetI l yX10_waits cX10_waits 1 (some .int) 7 [.ref (A 0)] D (tyl C) (mw C A) X0 u sz (fun r u' => IM u' ∧ Un [(0, 0), (24, 24), (25, 25)] [(12, 12), (13, 13)] [] u u' ∧ (True)) := by
  refine mI (by decide) (Nat.le_of_ble_eq_true rfl) ?_
  intro p e s m below meth c ls ar Q hx hb hml hown hts hK hH hX hl hret
  have hown : s.vm.findClass RX10 = some m.cls := hown
  have hl : lv_has ls 1 [(0, .ref (A 0))] := hl
  refine lv_aload_n hx hb dX10_waits_0 rfl (lv_at hl 0 rfl) ?_
  refine lv_iconst (v := 0) hx hb dX10_waits_1 (by decide) ?_
  refine r_put (j := 0) (ci := 10) (C := RX10) (T := TX10) (N := 42) hx hb hts (fun w h => uc_in w (inX10 w h)) tyX10 tyX10_ok nmX10 hown hK hH 0 (mwc0 C A u) rfl 0 (by decide) (hts _ (uc_in _ q_f1188)) (fun _ h9 => h9) rfl (by decide +kernel) (Nat.le_of_ble_eq_true rfl) (mws0 C A u _) dX10_waits_2 (fun u1 eu1 H locs hH => ?_)
  have hI := hI.pi0 eu1 rfl
  refine lv_aload_n hx hb dX10_waits_5 rfl (lv_at hl 0 rfl) ?_
  refine cvS (n := 0) (As := []) (rest := []) ⟨hx, hb, hml, hown, hts⟩ uc_in (kX10_isTown_0 l D C A u1 hI ) q_m1554 q_n1556 q_p84 q_i11 q_c1557 hvX10_isTown ⟨(Nat.le_of_ble_eq_true rfl), (Nat.le_of_ble_eq_true rfl)⟩ ⟨(Nat.le_of_ble_eq_true rfl), (Nat.le_of_ble_eq_true rfl)⟩ hK hH.1 10 0 rfl (mwc0 C A u1) rfl hl.1 rfl (Nat.le_of_ble_eq_true rfl) dX10_waits_6 (fun r2 p3 => ?_)
  have p3 : 0 ≤ r2.toInt ∧ r2.toInt ≤ 1 := p3
  refine lv_if_ne (tgt := 15) hx hb dX10_waits_9 (by decide) (fun c4 => ?_) (fun c4 => ?_)
  · have c4 := cNE (x := r2) (y := 0) (X := r2.toInt) (Y := 0) rfl (by decide) c4
    refine lv_aload_n hx hb dX10_waits_15 rfl (lv_at hl 0 rfl) ?_
    refine cvU (n := 0) (As := []) (rest := []) ⟨hx, hb, hml, hown, hts⟩ uc_in (kX10_lays_0 l D C A u1 hI  _) q_m1481 q_n1483 q_p75 q_i11 q_c1484 hvX10_lays ⟨(Nat.le_of_ble_eq_true rfl), (Nat.le_of_ble_eq_true rfl)⟩ ⟨(Nat.le_of_ble_eq_true rfl), (Nat.le_of_ble_eq_true rfl)⟩ hK hH (fun q h => Or.inr h) Bl0 (fun _ _ _ => trivial) 10 0 rfl (mwc0 C A u1) rfl hl.1 rfl (Nat.le_of_ble_eq_true rfl) dX10_waits_16 (fun u5 H locs p7 hH => ?_)
    obtain ⟨hI, hUu5, p7⟩ := p7
    refine lv_aload_n hx hb dX10_waits_19 rfl (lv_at hl 0 rfl) ?_
    refine cvS (n := 0) (As := []) (rest := []) ⟨hx, hb, hml, hown, hts⟩ uc_in (kX10_waitAll_0 l D C A u5 hI ) q_m1558 q_n1560 q_p85 q_i11 q_c1561 hvX10_waitAll ⟨(Nat.le_of_ble_eq_true rfl), (Nat.le_of_ble_eq_true rfl)⟩ ⟨(Nat.le_of_ble_eq_true rfl), (Nat.le_of_ble_eq_true rfl)⟩ hK hH.1 10 0 rfl (mwc0 C A u5) rfl hl.1 rfl (Nat.le_of_ble_eq_true rfl) dX10_waits_20 (fun r8 p9 => ?_)
    exact hret _ _ _ _ r8 _ dX10_waits_23 rfl ⟨hI, (Un.tr (Un.si Un.rf rfl eu1) hUu5 rfl rfl rfl), trivial⟩ hH
  · have c4 := cEQ (x := r2) (y := 0) (X := r2.toInt) (Y := 0) rfl (by decide) c4
    refine lv_bipush (v := (-2)) hx hb dX10_waits_12 (by decide) ?_
    exact hret _ _ _ _ ((-2) : Int32) _ dX10_waits_14 rfl ⟨hI, (Un.si Un.rf rfl eu1), trivial⟩ hH
set_option maxHeartbeats 4000000 in
set_option maxRecDepth 100000 in
theorem kX10_watch_0 (l : Launch) (D : va_G) (C : Nat → ClassId) (A : Nat → Nat) (u : St) (hI : IM u) (a0 : Int32) (A0 : Int) (ha0 : a0.toInt = A0) (sz : Nat) : MetI l yX10_watch cX10_watch 4 (some .int) 5 [.ref (A 0), .int a0] D (tyl C) (mw C A) X0 u sz (fun r u' => IM u' ∧ Un [(0, 0), (24, 24), (25, 25)] [(12, 12), (13, 13)] [] u u' ∧ (True)) := by
  refine mI (by decide) (Nat.le_of_ble_eq_true rfl) ?_
  intro p e s m below meth c ls ar Q hx hb hml hown hts hK hH hX hl hret
  have hown : s.vm.findClass RX10 = some m.cls := hown
  have hl : lv_has ls 4 [(0, .ref (A 0)), (1, .int a0)] := hl
  refine lv_aload_n hx hb dX10_watch_0 rfl (lv_at hl 0 rfl) ?_
  refine lv_iconst (v := 0) hx hb dX10_watch_1 (by decide) ?_
  refine r_put (j := 0) (ci := 10) (C := RX10) (T := TX10) (N := 42) hx hb hts (fun w h => uc_in w (inX10 w h)) tyX10 tyX10_ok nmX10 hown hK hH 0 (mwc0 C A u) rfl 0 (by decide) (hts _ (uc_in _ q_f1188)) (fun _ h9 => h9) rfl (by decide +kernel) (Nat.le_of_ble_eq_true rfl) (mws0 C A u _) dX10_watch_2 (fun u1 eu1 H locs hH => ?_)
  have hI := hI.pi0 eu1 rfl
  refine lv_aload_n hx hb dX10_watch_5 rfl (lv_at hl 0 rfl) ?_
  refine lv_iload_n hx hb dX10_watch_6 rfl (lv_at hl 1 rfl) ?_
  refine cvS (n := 1) (As := [.int a0]) (rest := []) ⟨hx, hb, hml, hown, hts⟩ uc_in (kX10_isLong_0 l D C A u1 hI a0 A0 ha0) q_m1630 q_n1632 q_p90 q_i11 q_c1633 hvX10_isLong ⟨(Nat.le_of_ble_eq_true rfl), (Nat.le_of_ble_eq_true rfl)⟩ ⟨(Nat.le_of_ble_eq_true rfl), (Nat.le_of_ble_eq_true rfl)⟩ hK hH.1 10 0 rfl (mwc0 C A u1) rfl hl.1 rfl (Nat.le_of_ble_eq_true rfl) dX10_watch_7 (fun r2 p3 => ?_)
  have p3 : 0 ≤ r2.toInt ∧ r2.toInt ≤ 1 := p3
  refine lv_if_ne (tgt := 16) hx hb dX10_watch_10 (by decide) (fun c4 => ?_) (fun c4 => ?_)
  · have c4 := cNE (x := r2) (y := 0) (X := r2.toInt) (Y := 0) rfl (by decide) c4
    refine lv_aload_n hx hb dX10_watch_16 rfl (lv_at hl 0 rfl) ?_
    refine cvU (n := 0) (As := []) (rest := []) ⟨hx, hb, hml, hown, hts⟩ uc_in (kX10_lays_0 l D C A u1 hI  _) q_m1481 q_n1483 q_p75 q_i11 q_c1484 hvX10_lays ⟨(Nat.le_of_ble_eq_true rfl), (Nat.le_of_ble_eq_true rfl)⟩ ⟨(Nat.le_of_ble_eq_true rfl), (Nat.le_of_ble_eq_true rfl)⟩ hK hH (fun q h => Or.inr h) Bl0 (fun _ _ _ => trivial) 10 0 rfl (mwc0 C A u1) rfl hl.1 rfl (Nat.le_of_ble_eq_true rfl) dX10_watch_17 (fun u5 H locs p7 hH => ?_)
    obtain ⟨hI, hUu5, p7⟩ := p7
    refine lv_iconst (v := 0) hx hb dX10_watch_20 (by decide) ?_
    refine lv_istore_n (lv' := [(2, .int 0), (0, .ref (A 0)), (1, .int a0)]) hx hb dX10_watch_21 rfl hl (by decide) rfl (fun ls hl => ?_)
    refine lv_iconst (v := 0) hx hb dX10_watch_22 (by decide) ?_
    refine lv_istore_n (lv' := [(3, .int 0), (2, .int 0), (0, .ref (A 0)), (1, .int a0)]) hx hb dX10_watch_23 rfl hl (by decide) rfl (fun ls hl => ?_)
    have lp24_138 : ∀ (n24 : Nat) (ls : Array Slot) (y137d : Int32) (y138d : Int32), 0 ≤ y137d.toInt → y137d.toInt ≤ 7 → 7 - y137d.toInt < (n24 : Int) → lv_has ls 4 [(3, .int y137d), (2, .int y138d), (0, .ref (A 0)), (1, .int a0)] → W p l e (rmL 5 0 0) s m ar below meth c H locs 0 0 Q (F0 m 24 ls []) := by
      intro n24
      induction n24 with
      | zero => intro ls y137d y138d ly137d my137d hmun24 hl; exfalso; omega
      | succ n24 ih24_138 =>
        intro ls y137d y138d ly137d my137d hmun24 hl
        refine lv_iload_n hx hb dX10_watch_24 rfl (lv_at hl 0 rfl) ?_
        refine lv_aload_n hx hb dX10_watch_25 rfl (lv_at hl 2 rfl) ?_
        refine cvS (n := 0) (As := []) (rest := [.int y137d]) ⟨hx, hb, hml, hown, hts⟩ uc_in (kX10_days_0 l D C A u5 hI ) q_m1477 q_n1479 q_p74 q_i11 q_c1480 hvX10_days ⟨(Nat.le_of_ble_eq_true rfl), (Nat.le_of_ble_eq_true rfl)⟩ ⟨(Nat.le_of_ble_eq_true rfl), (Nat.le_of_ble_eq_true rfl)⟩ hK hH.1 10 0 rfl (mwc0 C A u5) rfl hl.1 rfl (Nat.le_of_ble_eq_true rfl) dX10_watch_26 (fun r140 p141 => ?_)
        subst p141
        have b142 : 0 ≤ ((ga u5 7 0)).toInt ∧ ((ga u5 7 0)).toInt ≤ 7 := hI.has 0
        refine lv_icmp_ge (tgt := 57) hx hb dX10_watch_29 (by decide) (fun c143 => ?_) (fun c143 => ?_)
        · have c143 := cLE (x := (ga u5 7 0)) (y := y137d) (X := ((ga u5 7 0)).toInt) (Y := y137d.toInt) rfl rfl c143
          refine lv_iload_n hx hb dX10_watch_57 rfl (lv_at hl 1 rfl) ?_
          exact hret _ _ _ _ y138d _ dX10_watch_58 rfl ⟨hI, (Un.tr (Un.si Un.rf rfl eu1) hUu5 rfl rfl rfl), trivial⟩ hH
        · have c143 := cNLE (x := (ga u5 7 0)) (y := y137d) (X := ((ga u5 7 0)).toInt) (Y := y137d.toInt) rfl rfl c143
          refine lv_iload_n hx hb dX10_watch_32 rfl (lv_at hl 1 rfl) ?_
          refine lv_aload_n hx hb dX10_watch_33 rfl (lv_at hl 2 rfl) ?_
          refine lv_iload_n hx hb dX10_watch_34 rfl (lv_at hl 0 rfl) ?_
          refine cvS (n := 1) (As := [.int y137d]) (rest := [.int y138d]) ⟨hx, hb, hml, hown, hts⟩ uc_in (kX10_noonOf__0 l D C A u5 hI y137d y137d.toInt rfl (by omega) (by omega)) q_m1496 q_n1498 q_p77 q_i11 q_c1499 hvX10_noonOf_ ⟨(Nat.le_of_ble_eq_true rfl), (Nat.le_of_ble_eq_true rfl)⟩ ⟨(Nat.le_of_ble_eq_true rfl), (Nat.le_of_ble_eq_true rfl)⟩ hK hH.1 10 0 rfl (mwc0 C A u5) rfl hl.1 rfl (Nat.le_of_ble_eq_true rfl) dX10_watch_35 (fun r144 p145 => ?_)
          refine lv_iload_n hx hb dX10_watch_38 rfl (lv_at hl 3 rfl) ?_
          have j49_152 : ∀ (ls : Array Slot) (y149d : Int32), 0 ≤ y149d.toInt → y149d.toInt ≤ 64 → lv_has ls 4 [(3, .int y137d), (0, .ref (A 0)), (1, .int a0)] → W p l e (rmL 5 0 0) s m ar below meth c H locs 0 0 Q (F0 m 49 ls [.int y149d, .int y138d]) := by
            intro ls y149d ly149d my149d hl
            refine lv_ior hx hb dX10_watch_49 ?_
            refine p_any (fun z154 => ?_)
            refine lv_istore_n (lv' := [(2, .int z154), (3, .int y137d), (0, .ref (A 0)), (1, .int a0)]) hx hb dX10_watch_50 rfl hl (by decide) rfl (fun ls hl => ?_)
            obtain ⟨z155, ez155⟩ : ∃ z, z = y137d + Int32.ofInt 1 := ⟨_, rfl⟩
            have hz155 : z155.toInt = y137d.toInt + 1 := by rw [ez155]; exact tt_add rfl (by decide) (by omega) (by omega)
            refine lv_iinc (v := z155) (lv' := [(3, .int z155), (2, .int z154), (0, .ref (A 0)), (1, .int a0)]) hx hb dX10_watch_51 hl (k := 1) rfl ez155.symm (by decide) rfl (fun ls hl => ?_)
            refine lv_goto (tgt := 24) hx hb dX10_watch_54 (by decide) ?_
            exact ih24_138 ls z155 z154 (by have q9 := (show z155.toInt = (y137d.toInt + 1) from hz155); omega) (by have q9 := (show z155.toInt = (y137d.toInt + 1) from hz155); omega) (by have q9 := (show z155.toInt = (y137d.toInt + 1) from hz155); omega) hl
          refine lv_icmp_gt (tgt := 48) hx hb dX10_watch_39 (by decide) (fun c146 => ?_) (fun c146 => ?_)
          · have c146 := cLT (x := a0) (y := r144) (X := A0) (Y := r144.toInt) ha0 rfl c146
            refine lv_iconst (v := 0) hx hb dX10_watch_48 (by decide) ?_
            exact j49_152 ls 0 (by decide) (by decide) (lv_sub hl [0, 2, 3] rfl)
          · have c146 := cNLT (x := a0) (y := r144) (X := A0) (Y := r144.toInt) ha0 rfl c146
            refine lv_iconst (v := 1) hx hb dX10_watch_42 (by decide) ?_
            refine lv_iload_n hx hb dX10_watch_43 rfl (lv_at hl 0 rfl) ?_
            refine lv_ishl hx hb dX10_watch_44 ?_
            have gz156 := tt_shl1 (y := y137d) (Y := y137d.toInt) rfl (by omega) (by omega)
            refine p_bd (P := fun q => 1 ≤ q ∧ q ≤ 64) ⟨by omega, by omega⟩ (fun z157 bz157 => ?_)
            have bz157 : 1 ≤ z157.toInt ∧ z157.toInt ≤ 64 := bz157
            refine lv_goto (tgt := 49) hx hb dX10_watch_45 (by decide) ?_
            exact j49_152 ls z157 (by omega) (by omega) (lv_sub hl [0, 2, 3] rfl)
    exact lp24_138 8 ls 0 0 (by decide) (by decide) (by have q9 : (0 : Int32).toInt = 0 := (by decide); omega) hl
  · have c4 := cEQ (x := r2) (y := 0) (X := r2.toInt) (Y := 0) rfl (by decide) c4
    refine lv_bipush (v := (-2)) hx hb dX10_watch_13 (by decide) ?_
    exact hret _ _ _ _ ((-2) : Int32) _ dX10_watch_15 rfl ⟨hI, (Un.si Un.rf rfl eu1), trivial⟩ hH
set_option maxHeartbeats 4000000 in
set_option maxRecDepth 100000 in
theorem kX10_without_0 (l : Launch) (D : va_G) (C : Nat → ClassId) (A : Nat → Nat) (u : St) (hI : IM u) (a0 : Int32) (A0 : Int) (ha0 : a0.toInt = A0) (sz : Nat) : MetI l yX10_without cX10_without 2 (some .int) 8 [.ref (A 0), .int a0] D (tyl C) (mw C A) X0 u sz (fun r u' => IM u' ∧ Un [(0, 0), (24, 24), (25, 25)] [(12, 12), (13, 13)] [] u u' ∧ (True)) := by
  refine mI (by decide) (Nat.le_of_ble_eq_true rfl) ?_
  intro p e s m below meth c ls ar Q hx hb hml hown hts hK hH hX hl hret
  have hown : s.vm.findClass RX10 = some m.cls := hown
  have hl : lv_has ls 2 [(0, .ref (A 0)), (1, .int a0)] := hl
  refine lv_aload_n hx hb dX10_without_0 rfl (lv_at hl 0 rfl) ?_
  refine lv_iconst (v := 0) hx hb dX10_without_1 (by decide) ?_
  refine r_put (j := 0) (ci := 10) (C := RX10) (T := TX10) (N := 42) hx hb hts (fun w h => uc_in w (inX10 w h)) tyX10 tyX10_ok nmX10 hown hK hH 0 (mwc0 C A u) rfl 0 (by decide) (hts _ (uc_in _ q_f1188)) (fun _ h9 => h9) rfl (by decide +kernel) (Nat.le_of_ble_eq_true rfl) (mws0 C A u _) dX10_without_2 (fun u1 eu1 H locs hH => ?_)
  have hI := hI.pi0 eu1 rfl
  refine lv_aload_n hx hb dX10_without_5 rfl (lv_at hl 0 rfl) ?_
  refine lv_iload_n hx hb dX10_without_6 rfl (lv_at hl 1 rfl) ?_
  refine lv_i2l (v := a0.toInt64) hx hb dX10_without_7 rfl ?_
  refine cvS (n := 1) (As := [.long a0.toInt64]) (rest := []) ⟨hx, hb, hml, hown, hts⟩ uc_in (kX10_isClock_0 l D C A u1 hI a0.toInt64 A0 (tt_i2l ha0)) q_m1460 q_n1462 q_p71 q_i11 q_c1463 hvX10_isClock ⟨(Nat.le_of_ble_eq_true rfl), (Nat.le_of_ble_eq_true rfl)⟩ ⟨(Nat.le_of_ble_eq_true rfl), (Nat.le_of_ble_eq_true rfl)⟩ hK hH.1 10 0 rfl (mwc0 C A u1) rfl hl.1 rfl (Nat.le_of_ble_eq_true rfl) dX10_without_8 (fun r2 p3 => ?_)
  rcases p3 with ⟨e9, f4, f5⟩ | e9
  · subst e9
    have b7 : 0 ≤ ((ga u1 7 3)).toInt ∧ ((ga u1 7 3)).toInt ≤ 6 := hI.has 3
    refine lv_if_ne (tgt := 17) hx hb dX10_without_11 (by decide) (fun c8 => ?_) (fun c8 => absurd c8 (by decide))
    refine lv_aload_n hx hb dX10_without_17 rfl (lv_at hl 0 rfl) ?_
    refine cvU (n := 0) (As := []) (rest := []) ⟨hx, hb, hml, hown, hts⟩ uc_in (kX10_lays_0 l D C A u1 hI  _) q_m1481 q_n1483 q_p75 q_i11 q_c1484 hvX10_lays ⟨(Nat.le_of_ble_eq_true rfl), (Nat.le_of_ble_eq_true rfl)⟩ ⟨(Nat.le_of_ble_eq_true rfl), (Nat.le_of_ble_eq_true rfl)⟩ hK hH (fun q h => Or.inr h) Bl0 (fun _ _ _ => trivial) 10 0 rfl (mwc0 C A u1) rfl hl.1 rfl (Nat.le_of_ble_eq_true rfl) dX10_without_18 (fun u9 H locs p11 hH => ?_)
    obtain ⟨hI, hUu9, p11⟩ := p11
    refine lv_aload_n hx hb dX10_without_21 rfl (lv_at hl 0 rfl) ?_
    refine lv_iconst (v := 1) hx hb dX10_without_22 (by decide) ?_
    refine lv_iload_n hx hb dX10_without_23 rfl (lv_at hl 1 rfl) ?_
    refine lv_ishl hx hb dX10_without_24 ?_
    have gz12 := tt_shl1 (y := a0) (Y := A0) ha0 (by omega) (by omega)
    refine p_bd (P := fun q => 1 ≤ q ∧ q ≤ 32) ⟨by omega, by omega⟩ (fun z13 bz13 => ?_)
    have bz13 : 1 ≤ z13.toInt ∧ z13.toInt ≤ 32 := bz13
    refine cvI (n := 1) (As := [.int z13]) (rest := []) ⟨hx, hb, hml, hown, hts⟩ uc_in (kX10_waitWithout_0 l D C A u9 hI z13 z13.toInt rfl _) q_m1589 q_n1591 q_p88 q_i11 q_c1592 hvX10_waitWithout ⟨(Nat.le_of_ble_eq_true rfl), (Nat.le_of_ble_eq_true rfl)⟩ ⟨(Nat.le_of_ble_eq_true rfl), (Nat.le_of_ble_eq_true rfl)⟩ hK hH (fun q h => Or.inr h) Bl0 (fun _ _ _ => trivial) 10 0 rfl (mwc0 C A u9) rfl hl.1 rfl (Nat.le_of_ble_eq_true rfl) dX10_without_25 (fun r15 u14 H locs p16 hH => ?_)
    obtain ⟨hI, hUu14, p16⟩ := p16
    exact hret _ _ _ _ r15 _ dX10_without_28 rfl ⟨hI, (Un.tr (Un.tr (Un.si Un.rf rfl eu1) hUu9 rfl rfl rfl) hUu14 rfl rfl rfl), trivial⟩ hH
  · subst e9
    refine lv_if_ne (tgt := 17) hx hb dX10_without_11 (by decide) (fun c17 => absurd c17 (by decide)) (fun c17 => ?_)
    refine lv_bipush (v := (-2)) hx hb dX10_without_14 (by decide) ?_
    exact hret _ _ _ _ ((-2) : Int32) _ dX10_without_16 rfl ⟨hI, (Un.si Un.rf rfl eu1), trivial⟩ hH
set_option maxHeartbeats 4000000 in
set_option maxRecDepth 100000 in
theorem kX10_worst_0 (l : Launch) (D : va_G) (C : Nat → ClassId) (A : Nat → Nat) (u : St) (hI : IM u) (sz : Nat) : MetI l yX10_worst cX10_worst 4 (some .int) 6 [.ref (A 0)] D (tyl C) (mw C A) X0 u sz (fun r u' => IM u' ∧ Un [(0, 0), (24, 24), (25, 25)] [(12, 12), (13, 13)] [] u u' ∧ ((-2) ≤ r.toInt ∧ r.toInt ≤ 6)) := by
  refine mI (by decide) (Nat.le_of_ble_eq_true rfl) ?_
  intro p e s m below meth c ls ar Q hx hb hml hown hts hK hH hX hl hret
  have hown : s.vm.findClass RX10 = some m.cls := hown
  have hl : lv_has ls 4 [(0, .ref (A 0))] := hl
  refine lv_aload_n hx hb dX10_worst_0 rfl (lv_at hl 0 rfl) ?_
  refine lv_iconst (v := 0) hx hb dX10_worst_1 (by decide) ?_
  refine r_put (j := 0) (ci := 10) (C := RX10) (T := TX10) (N := 42) hx hb hts (fun w h => uc_in w (inX10 w h)) tyX10 tyX10_ok nmX10 hown hK hH 0 (mwc0 C A u) rfl 0 (by decide) (hts _ (uc_in _ q_f1188)) (fun _ h9 => h9) rfl (by decide +kernel) (Nat.le_of_ble_eq_true rfl) (mws0 C A u _) dX10_worst_2 (fun u1 eu1 H locs hH => ?_)
  have hI := hI.pi0 eu1 rfl
  refine lv_aload_n hx hb dX10_worst_5 rfl (lv_at hl 0 rfl) ?_
  refine cvS (n := 0) (As := []) (rest := []) ⟨hx, hb, hml, hown, hts⟩ uc_in (kX10_isTown_0 l D C A u1 hI ) q_m1554 q_n1556 q_p84 q_i11 q_c1557 hvX10_isTown ⟨(Nat.le_of_ble_eq_true rfl), (Nat.le_of_ble_eq_true rfl)⟩ ⟨(Nat.le_of_ble_eq_true rfl), (Nat.le_of_ble_eq_true rfl)⟩ hK hH.1 10 0 rfl (mwc0 C A u1) rfl hl.1 rfl (Nat.le_of_ble_eq_true rfl) dX10_worst_6 (fun r2 p3 => ?_)
  have p3 : 0 ≤ r2.toInt ∧ r2.toInt ≤ 1 := p3
  refine lv_if_ne (tgt := 15) hx hb dX10_worst_9 (by decide) (fun c4 => ?_) (fun c4 => ?_)
  · have c4 := cNE (x := r2) (y := 0) (X := r2.toInt) (Y := 0) rfl (by decide) c4
    refine lv_aload_n hx hb dX10_worst_15 rfl (lv_at hl 0 rfl) ?_
    refine cvU (n := 0) (As := []) (rest := []) ⟨hx, hb, hml, hown, hts⟩ uc_in (kX10_lays_0 l D C A u1 hI  _) q_m1481 q_n1483 q_p75 q_i11 q_c1484 hvX10_lays ⟨(Nat.le_of_ble_eq_true rfl), (Nat.le_of_ble_eq_true rfl)⟩ ⟨(Nat.le_of_ble_eq_true rfl), (Nat.le_of_ble_eq_true rfl)⟩ hK hH (fun q h => Or.inr h) Bl0 (fun _ _ _ => trivial) 10 0 rfl (mwc0 C A u1) rfl hl.1 rfl (Nat.le_of_ble_eq_true rfl) dX10_worst_16 (fun u5 H locs p7 hH => ?_)
    obtain ⟨hI, hUu5, p7⟩ := p7
    refine lv_iconst (v := (-1)) hx hb dX10_worst_19 (by decide) ?_
    refine lv_istore_n (lv' := [(1, .int (-1)), (0, .ref (A 0))]) hx hb dX10_worst_20 rfl hl (by decide) rfl (fun ls hl => ?_)
    refine lv_iconst (v := 0) hx hb dX10_worst_21 (by decide) ?_
    refine lv_istore_n (lv' := [(2, .int 0), (1, .int (-1)), (0, .ref (A 0))]) hx hb dX10_worst_22 rfl hl (by decide) rfl (fun ls hl => ?_)
    refine lv_iconst (v := 0) hx hb dX10_worst_23 (by decide) ?_
    refine lv_istore_n (lv' := [(3, .int 0), (2, .int 0), (1, .int (-1)), (0, .ref (A 0))]) hx hb dX10_worst_24 rfl hl (by decide) rfl (fun ls hl => ?_)
    have lp25_114 : ∀ (n25 : Nat) (ls : Array Slot) (y112d : Int32) (y113d : Int32) (y114d : Int32), 0 ≤ y112d.toInt → y112d.toInt ≤ 7 → (-1) ≤ y114d.toInt → y114d.toInt ≤ 6 → 7 - y112d.toInt < (n25 : Int) → lv_has ls 4 [(3, .int y112d), (2, .int y113d), (1, .int y114d), (0, .ref (A 0))] → W p l e (rmL 6 0 0) s m ar below meth c H locs 0 0 Q (F0 m 25 ls []) := by
      intro n25
      induction n25 with
      | zero => intro ls y112d y113d y114d ly112d my112d ly114d my114d hmun25 hl; exfalso; omega
      | succ n25 ih25_114 =>
        intro ls y112d y113d y114d ly112d my112d ly114d my114d hmun25 hl
        refine lv_iload_n hx hb dX10_worst_25 rfl (lv_at hl 0 rfl) ?_
        refine lv_aload_n hx hb dX10_worst_26 rfl (lv_at hl 3 rfl) ?_
        refine cvS (n := 0) (As := []) (rest := [.int y112d]) ⟨hx, hb, hml, hown, hts⟩ uc_in (kX10_days_0 l D C A u5 hI ) q_m1477 q_n1479 q_p74 q_i11 q_c1480 hvX10_days ⟨(Nat.le_of_ble_eq_true rfl), (Nat.le_of_ble_eq_true rfl)⟩ ⟨(Nat.le_of_ble_eq_true rfl), (Nat.le_of_ble_eq_true rfl)⟩ hK hH.1 10 0 rfl (mwc0 C A u5) rfl hl.1 rfl (Nat.le_of_ble_eq_true rfl) dX10_worst_27 (fun r116 p117 => ?_)
        subst p117
        have b118 : 0 ≤ ((ga u5 7 0)).toInt ∧ ((ga u5 7 0)).toInt ≤ 7 := hI.has 0
        refine lv_icmp_ge (tgt := 59) hx hb dX10_worst_30 (by decide) (fun c119 => ?_) (fun c119 => ?_)
        · have c119 := cLE (x := (ga u5 7 0)) (y := y112d) (X := ((ga u5 7 0)).toInt) (Y := y112d.toInt) rfl rfl c119
          refine lv_iload_n hx hb dX10_worst_59 rfl (lv_at hl 2 rfl) ?_
          exact hret _ _ _ _ y114d _ dX10_worst_60 rfl ⟨hI, (Un.tr (Un.si Un.rf rfl eu1) hUu5 rfl rfl rfl), ⟨by omega, by omega⟩⟩ hH
        · have c119 := cNLE (x := (ga u5 7 0)) (y := y112d) (X := ((ga u5 7 0)).toInt) (Y := y112d.toInt) rfl rfl c119
          refine lv_aload_n hx hb dX10_worst_33 rfl (lv_at hl 3 rfl) ?_
          refine lv_iload_n hx hb dX10_worst_34 rfl (lv_at hl 0 rfl) ?_
          refine cvS (n := 1) (As := [.int y112d]) (rest := []) ⟨hx, hb, hml, hown, hts⟩ uc_in (kX10_waitOf_0 l D C A u5 hI y112d y112d.toInt rfl (by omega) (by omega)) q_m1542 q_n1544 q_p82 q_i11 q_c1545 hvX10_waitOf ⟨(Nat.le_of_ble_eq_true rfl), (Nat.le_of_ble_eq_true rfl)⟩ ⟨(Nat.le_of_ble_eq_true rfl), (Nat.le_of_ble_eq_true rfl)⟩ hK hH.1 10 0 rfl (mwc0 C A u5) rfl hl.1 rfl (Nat.le_of_ble_eq_true rfl) dX10_worst_35 (fun r120 p121 => ?_)
          refine lv_iload_n hx hb dX10_worst_38 rfl (lv_at hl 1 rfl) ?_
          have j53_128 : ∀ (ls : Array Slot) (y125d : Int32) (y126d : Int32), (-1) ≤ y126d.toInt → y126d.toInt ≤ 6 → lv_has ls 4 [(2, .int y125d), (1, .int y126d), (3, .int y112d), (0, .ref (A 0))] → W p l e (rmL 6 0 0) s m ar below meth c H locs 0 0 Q (F0 m 53 ls []) := by
            intro ls y125d y126d ly126d my126d hl
            obtain ⟨z130, ez130⟩ : ∃ z, z = y112d + Int32.ofInt 1 := ⟨_, rfl⟩
            have hz130 : z130.toInt = y112d.toInt + 1 := by rw [ez130]; exact tt_add rfl (by decide) (by omega) (by omega)
            refine lv_iinc (v := z130) (lv' := [(3, .int z130), (2, .int y125d), (1, .int y126d), (0, .ref (A 0))]) hx hb dX10_worst_53 hl (k := 2) rfl ez130.symm (by decide) rfl (fun ls hl => ?_)
            refine lv_goto (tgt := 25) hx hb dX10_worst_56 (by decide) ?_
            exact ih25_114 ls z130 y125d y126d (by have q9 := (show z130.toInt = (y112d.toInt + 1) from hz130); omega) (by have q9 := (show z130.toInt = (y112d.toInt + 1) from hz130); omega) (by omega) (by omega) (by have q9 := (show z130.toInt = (y112d.toInt + 1) from hz130); omega) hl
          refine lv_icmp_gt (tgt := 45) hx hb dX10_worst_39 (by decide) (fun c122 => ?_) (fun c122 => ?_)
          · have c122 := cLT (x := y113d) (y := r120) (X := y113d.toInt) (Y := r120.toInt) rfl rfl c122
            refine lv_iload_n hx hb dX10_worst_45 rfl (lv_at hl 0 rfl) ?_
            refine lv_istore_n (lv' := [(1, .int y112d), (3, .int y112d), (2, .int y113d), (0, .ref (A 0))]) hx hb dX10_worst_46 rfl hl (by decide) rfl (fun ls hl => ?_)
            refine lv_aload_n hx hb dX10_worst_47 rfl (lv_at hl 3 rfl) ?_
            refine lv_iload_n hx hb dX10_worst_48 rfl (lv_at hl 1 rfl) ?_
            refine cvS (n := 1) (As := [.int y112d]) (rest := []) ⟨hx, hb, hml, hown, hts⟩ uc_in (kX10_waitOf_0 l D C A u5 hI y112d y112d.toInt rfl (by omega) (by omega)) q_m1542 q_n1544 q_p82 q_i11 q_c1545 hvX10_waitOf ⟨(Nat.le_of_ble_eq_true rfl), (Nat.le_of_ble_eq_true rfl)⟩ ⟨(Nat.le_of_ble_eq_true rfl), (Nat.le_of_ble_eq_true rfl)⟩ hK hH.1 10 0 rfl (mwc0 C A u5) rfl hl.1 rfl (Nat.le_of_ble_eq_true rfl) dX10_worst_49 (fun r131 p132 => ?_)
            refine lv_istore_n (lv' := [(2, .int r131), (1, .int y112d), (3, .int y112d), (0, .ref (A 0))]) hx hb dX10_worst_52 rfl hl (by decide) rfl (fun ls hl => ?_)
            exact j53_128 ls r131 y112d (by omega) (by omega) hl
          · have c122 := cNLT (x := y113d) (y := r120) (X := y113d.toInt) (Y := r120.toInt) rfl rfl c122
            refine lv_goto (tgt := 53) hx hb dX10_worst_42 (by decide) ?_
            exact j53_128 ls y113d y114d (by omega) (by omega) (lv_sub hl [1, 2, 0, 3] rfl)
    exact lp25_114 8 ls 0 0 (-1) (by decide) (by decide) (by decide) (by decide) (by have q9 : (0 : Int32).toInt = 0 := (by decide); omega) hl
  · have c4 := cEQ (x := r2) (y := 0) (X := r2.toInt) (Y := 0) rfl (by decide) c4
    refine lv_bipush (v := (-2)) hx hb dX10_worst_12 (by decide) ?_
    exact hret _ _ _ _ ((-2) : Int32) _ dX10_worst_14 rfl ⟨hI, (Un.si Un.rf rfl eu1), ⟨by decide, by decide⟩⟩ hH
set_option maxHeartbeats 4000000 in
set_option maxRecDepth 100000 in
theorem kX10_cut_0 (l : Launch) (D : va_G) (C : Nat → ClassId) (A : Nat → Nat) (u : St) (hI : IM u) (a0 : Int64) (A0 : Int) (ha0 : a0.toInt = A0) (a1 : Int32) (A1 : Int) (ha1 : a1.toInt = A1) : Met l yX10_cut (uc yX10_cut cX10_cut 3 (some .long)) (rmL 1 0 0) (va_Pc [.long a0, .int a1] (PreR D (tyl C) (mw C A u))) (vp_Sl (fun _ => True)) 0 0 (fun _ => False) := by
  refine mSl (by decide) (Nat.le_of_ble_eq_true rfl) ?_
  intro p e s m below meth c ls ar Q hx hb hml hown hts hK hP hl hret
  have hown : s.vm.findClass RX10 = some m.cls := hown
  have hl : lv_has ls 3 [(0, .long a0), (2, .int a1)] := hl
  refine lv_iload_n hx hb dX10_cut_0 rfl (lv_at hl 1 rfl) ?_
  refine lv_if_ne (tgt := 11) hx hb dX10_cut_1 (by decide) (fun c1 => ?_) (fun c1 => ?_)
  · refine lv_iload_n hx hb dX10_cut_11 rfl (lv_at hl 1 rfl) ?_
    refine lv_iconst (v := 1) hx hb dX10_cut_12 (by decide) ?_
    refine lv_icmp_ne (tgt := 23) hx hb dX10_cut_13 (by decide) (fun c2 => ?_) (fun c2 => ?_)
    · refine lv_iload_n hx hb dX10_cut_23 rfl (lv_at hl 1 rfl) ?_
      refine lv_iconst (v := 2) hx hb dX10_cut_24 (by decide) ?_
      refine lv_icmp_ne (tgt := 34) hx hb dX10_cut_25 (by decide) (fun c3 => ?_) (fun c3 => ?_)
      · refine lv_lload_n hx hb dX10_cut_34 rfl (lv_at hl 0 rfl) ?_
        exact hret _ _ _ dX10_cut_35 trivial
      · have c3 := cEQ (x := a1) (y := 2) (X := A1) (Y := 2) ha1 (by decide) c3
        refine lv_lload_n hx hb dX10_cut_28 rfl (lv_at hl 0 rfl) ?_
        refine lv_l2i hx hb dX10_cut_29 rfl ?_
        refine p_any (fun z4 => ?_)
        refine lv_i2l (v := z4.toInt64) hx hb dX10_cut_30 rfl ?_
        refine lv_goto (tgt := 35) hx hb dX10_cut_31 (by decide) ?_
        exact hret _ _ _ dX10_cut_35 trivial
    · have c2 := cEQ (x := a1) (y := 1) (X := A1) (Y := 1) ha1 (by decide) c2
      refine lv_lload_n hx hb dX10_cut_16 rfl (lv_at hl 0 rfl) ?_
      refine lv_l2i hx hb dX10_cut_17 rfl ?_
      refine p_any (fun z5 => ?_)
      refine lv_i2s hx hb dX10_cut_18 rfl ?_
      refine p_any (fun z6 => ?_)
      refine lv_i2l (v := z6.toInt64) hx hb dX10_cut_19 rfl ?_
      refine lv_goto (tgt := 35) hx hb dX10_cut_20 (by decide) ?_
      exact hret _ _ _ dX10_cut_35 trivial
  · have c1 := cEQ (x := a1) (y := 0) (X := A1) (Y := 0) ha1 (by decide) c1
    refine lv_lload_n hx hb dX10_cut_4 rfl (lv_at hl 0 rfl) ?_
    refine lv_l2i hx hb dX10_cut_5 rfl ?_
    refine p_any (fun z7 => ?_)
    refine lv_i2b hx hb dX10_cut_6 rfl ?_
    refine p_any (fun z8 => ?_)
    refine lv_i2l (v := z8.toInt64) hx hb dX10_cut_7 rfl ?_
    refine lv_goto (tgt := 35) hx hb dX10_cut_8 (by decide) ?_
    exact hret _ _ _ dX10_cut_35 trivial
set_option maxHeartbeats 4000000 in
set_option maxRecDepth 100000 in
theorem kX10_write_0 (l : Launch) (D : va_G) (C : Nat → ClassId) (A : Nat → Nat) (u : St) (hI : IM u) (a0 : Int32) (A0 : Int) (ha0 : a0.toInt = A0) (a1 : Int32) (A1 : Int) (ha1 : a1.toInt = A1) (a2 : Int64) (A2 : Int) (ha2 : a2.toInt = A2) (hb1a0 : -1 ≤ (ga u 1 (Int32.toNatClampNeg a0)).toInt ∧ (ga u 1 (Int32.toNatClampNeg a0)).toInt ≤ 3) (hb2a0 : 0 ≤ (ga u 2 (Int32.toNatClampNeg a0)).toInt ∧ (ga u 2 (Int32.toNatClampNeg a0)).toInt ≤ 60) (sz : Nat) : MetI l yX10_write cX10_write 5 (some .int) 3 [.ref (A 0), .int a0, .int a1, .long a2] D (tyl C) (mw C A) X0 u sz (fun r u' => IM u' ∧ Un [(0, 0)] [] [(3, 3)] u u' ∧ ((r = -2 ∧ ¬ (0 ≤ A0 ∧ A0 ≤ 3)) ∨ (r = -6 ∧ (0 ≤ A0 ∧ A0 ≤ 3) ∧ (ga u 1 (Int32.toNatClampNeg a0)).toInt = -1) ∨ (r = -7 ∧ (0 ≤ A0 ∧ A0 ≤ 3) ∧ (ga u 1 (Int32.toNatClampNeg a0)).toInt ≠ -1 ∧ ¬ (0 ≤ A1 ∧ A1 ≤ (ga u 2 (Int32.toNatClampNeg a0)).toInt - 1)) ∨ (r = 0 ∧ (0 ≤ A0 ∧ A0 ≤ 3) ∧ (ga u 1 (Int32.toNatClampNeg a0)).toInt ≠ -1 ∧ 0 ≤ A1 ∧ A1 ≤ (ga u 2 (Int32.toNatClampNeg a0)).toInt - 1))) := by
  refine mI (by decide) (Nat.le_of_ble_eq_true rfl) ?_
  intro p e s m below meth c ls ar Q hx hb hml hown hts hK hH hX hl hret
  have hown : s.vm.findClass RX10 = some m.cls := hown
  have hl : lv_has ls 5 [(0, .ref (A 0)), (1, .int a0), (2, .int a1), (3, .long a2)] := hl
  refine lv_aload_n hx hb dX10_write_0 rfl (lv_at hl 0 rfl) ?_
  refine lv_iconst (v := 0) hx hb dX10_write_1 (by decide) ?_
  refine r_put (j := 0) (ci := 10) (C := RX10) (T := TX10) (N := 42) hx hb hts (fun w h => uc_in w (inX10 w h)) tyX10 tyX10_ok nmX10 hown hK hH 0 (mwc0 C A u) rfl 0 (by decide) (hts _ (uc_in _ q_f1188)) (fun _ h9 => h9) rfl (by decide +kernel) (Nat.le_of_ble_eq_true rfl) (mws0 C A u _) dX10_write_2 (fun u1 eu1 H locs hH => ?_)
  have hI := hI.pi0 eu1 rfl
  refine lv_iload_n hx hb dX10_write_5 rfl (lv_at hl 1 rfl) ?_
  refine csS (n := 1) (As := [.int a0]) (rest := []) ⟨hx, hb, hml, hown, hts⟩ uc_in (kX10_isSlot_0 l D C A u1 hI a0 A0 ha0) q_m1320 q_s1321 q_i11 q_c1322 hvX10_isSlot ⟨(Nat.le_of_ble_eq_true rfl), (Nat.le_of_ble_eq_true rfl)⟩ ⟨(Nat.le_of_ble_eq_true rfl), (Nat.le_of_ble_eq_true rfl)⟩ hK hH.1 rfl hl.1 rfl (Nat.le_of_ble_eq_true rfl) dX10_write_6 (fun r2 p3 => ?_)
  rcases p3 with ⟨e9, f4, f5⟩ | ⟨e9, fn6⟩
  · subst e9
    refine lv_if_ne (tgt := 15) hx hb dX10_write_9 (by decide) (fun c7 => ?_) (fun c7 => absurd c7 (by decide))
    refine lv_aload_n hx hb dX10_write_15 rfl (lv_at hl 0 rfl) ?_
    refine va_get (ci := 10) (v := .ref (A 1)) (C := RX10) (T := TX10) (N := 42) hx hb hts (fun w h => uc_in w (inX10 w h)) hown hK hH.1 0 (mwc0 C A u1) rfl 1 (by decide) (hts _ (uc_in _ q_f1189)) (fun _ h9 => h9) rfl dX10_write_16 ?_
    refine lv_iload_n hx hb dX10_write_19 rfl (lv_at hl 1 rfl) ?_
    refine va_iald hx hb hK hH.1 1 1 (mwc1 C A u1) rfl (i_ix ha0 (by omega) (by omega)) dX10_write_20 ?_
    refine pv_i (v := (ga u 1 (Int32.toNatClampNeg a0))) ((congrFun (ga_si eu1) _).trans rfl) ?_
    refine lv_iconst (v := (-1)) hx hb dX10_write_21 (by decide) ?_
    refine lv_icmp_ne (tgt := 28) hx hb dX10_write_22 (by decide) (fun c8 => ?_) (fun c8 => ?_)
    · have c8 := cNE (x := (ga u 1 (Int32.toNatClampNeg a0))) (y := (-1)) (X := ((ga u 1 (Int32.toNatClampNeg a0))).toInt) (Y := (-1)) rfl (by decide) c8
      refine lv_iload_n hx hb dX10_write_28 rfl (lv_at hl 2 rfl) ?_
      refine lv_i2l (v := a1.toInt64) hx hb dX10_write_29 rfl ?_
      refine lv_lconst (v := 0) hx hb dX10_write_30 (by decide) ?_
      refine lv_aload_n hx hb dX10_write_31 rfl (lv_at hl 0 rfl) ?_
      refine va_get (ci := 10) (v := .ref (A 2)) (C := RX10) (T := TX10) (N := 42) hx hb hts (fun w h => uc_in w (inX10 w h)) hown hK hH.1 0 (mwc0 C A u1) rfl 2 (by decide) (hts _ (uc_in _ q_f1190)) (fun _ h9 => h9) rfl dX10_write_32 ?_
      refine lv_iload_n hx hb dX10_write_35 rfl (lv_at hl 1 rfl) ?_
      refine va_iald hx hb hK hH.1 2 1 (mwc2 C A u1) rfl (i_ix ha0 (by omega) (by omega)) dX10_write_36 ?_
      refine pv_i (v := (ga u 2 (Int32.toNatClampNeg a0))) ((congrFun (ga_si eu1) _).trans rfl) ?_
      refine lv_iconst (v := 1) hx hb dX10_write_37 (by decide) ?_
      refine lv_isub hx hb dX10_write_38 ?_
      refine p_nm (tt_sub (X := ((ga u 2 (Int32.toNatClampNeg a0))).toInt) (Y := 1) rfl (by decide) (by omega) (by omega)) (fun z9 hz9 => ?_)
      refine lv_i2l (v := z9.toInt64) hx hb dX10_write_39 rfl ?_
      refine csS (n := 3) (As := [.long a1.toInt64, .long 0, .long z9.toInt64]) (rest := []) ⟨hx, hb, hml, hown, hts⟩ uc_in (kX10_in_0 l D C A u1 hI a1.toInt64 A1 (tt_i2l ha1) (0) 0 (by decide) z9.toInt64 (((ga u 2 (Int32.toNatClampNeg a0))).toInt - 1) (tt_i2l hz9)) q_m1324 q_s1325 q_i11 q_c1326 hvX10_in ⟨(Nat.le_of_ble_eq_true rfl), (Nat.le_of_ble_eq_true rfl)⟩ ⟨(Nat.le_of_ble_eq_true rfl), (Nat.le_of_ble_eq_true rfl)⟩ hK hH.1 rfl hl.1 rfl (Nat.le_of_ble_eq_true rfl) dX10_write_40 (fun r10 p11 => ?_)
      rcases p11 with ⟨e9, f12, f13⟩ | ⟨e9, fn14⟩
      · subst e9
        refine lv_if_ne (tgt := 49) hx hb dX10_write_43 (by decide) (fun c15 => ?_) (fun c15 => absurd c15 (by decide))
        refine lv_aload_n hx hb dX10_write_49 rfl (lv_at hl 0 rfl) ?_
        refine va_get (ci := 10) (v := .ref (A 3)) (C := RX10) (T := TX10) (N := 42) hx hb hts (fun w h => uc_in w (inX10 w h)) hown hK hH.1 0 (mwc0 C A u1) rfl 3 (by decide) (hts _ (uc_in _ q_f1191)) (fun _ h9 => h9) rfl dX10_write_50 ?_
        refine lv_bipush (v := 60) hx hb dX10_write_53 (by decide) ?_
        refine lv_iload_n hx hb dX10_write_55 rfl (lv_at hl 1 rfl) ?_
        refine lv_imul hx hb dX10_write_56 ?_
        refine p_nm (tt_mul (X := 60) (Y := A0) (by decide) ha0 (by omega) (by omega)) (fun z16 hz16 => ?_)
        refine lv_iload_n hx hb dX10_write_57 rfl (lv_at hl 2 rfl) ?_
        refine lv_iadd hx hb dX10_write_58 ?_
        refine p_nm (tt_add (X := (60 * A0)) (Y := A1) hz16 ha1 (by omega) (by omega)) (fun z17 hz17 => ?_)
        refine lv_lload_n hx hb dX10_write_59 rfl (lv_at hl 3 rfl) ?_
        refine lv_aload_n hx hb dX10_write_60 rfl (lv_at hl 0 rfl) ?_
        refine va_get (ci := 10) (v := .ref (A 1)) (C := RX10) (T := TX10) (N := 42) hx hb hts (fun w h => uc_in w (inX10 w h)) hown hK hH.1 0 (mwc0 C A u1) rfl 1 (by decide) (hts _ (uc_in _ q_f1189)) (fun _ h9 => h9) rfl dX10_write_61 ?_
        refine lv_iload_n hx hb dX10_write_64 rfl (lv_at hl 1 rfl) ?_
        refine va_iald hx hb hK hH.1 1 1 (mwc1 C A u1) rfl (i_ix ha0 (by omega) (by omega)) dX10_write_65 ?_
        refine pv_i (v := (ga u 1 (Int32.toNatClampNeg a0))) ((congrFun (ga_si eu1) _).trans rfl) ?_
        refine csSl (n := 2) (As := [.long a2, .int (ga u 1 (Int32.toNatClampNeg a0))]) (rest := [.int z17, .ref (A 3)]) ⟨hx, hb, hml, hown, hts⟩ uc_in (kX10_cut_0 l D C A u1 hI a2 A2 ha2 (ga u 1 (Int32.toNatClampNeg a0)) (((ga u 1 (Int32.toNatClampNeg a0))).toInt) rfl) q_m1331 q_s1332 q_i11 q_c1333 hvX10_cut ⟨(Nat.le_of_ble_eq_true rfl), (Nat.le_of_ble_eq_true rfl)⟩ ⟨(Nat.le_of_ble_eq_true rfl), (Nat.le_of_ble_eq_true rfl)⟩ hK hH.1 rfl hl.1 rfl (Nat.le_of_ble_eq_true rfl) dX10_write_66 (fun r18 p19 => ?_)
        refine r_last (j := 3) hx hb hK hH 3 2 (mwc3 C A u1) rfl (i_ix hz17 (by omega) (by omega)) (mwb3 C A u1) dX10_write_69 (fun u20 eu20 H locs hH => ?_)
        have hI := hI.pb_ eu20
        refine lv_iconst (v := 0) hx hb dX10_write_70 (by decide) ?_
        exact hret _ _ _ _ (0 : Int32) _ dX10_write_71 rfl ⟨hI, (Un.sb (Un.si Un.rf rfl eu1) rfl eu20), (Or.inr (Or.inr (Or.inr (⟨rfl, by omega⟩))))⟩ hH
      · subst e9
        refine lv_if_ne (tgt := 49) hx hb dX10_write_43 (by decide) (fun c21 => absurd c21 (by decide)) (fun c21 => ?_)
        refine lv_bipush (v := (-7)) hx hb dX10_write_46 (by decide) ?_
        exact hret _ _ _ _ ((-7) : Int32) _ dX10_write_48 rfl ⟨hI, (Un.si Un.rf rfl eu1), (Or.inr (Or.inr (Or.inl (⟨rfl, by omega⟩))))⟩ hH
    · have c8 := cEQ (x := (ga u 1 (Int32.toNatClampNeg a0))) (y := (-1)) (X := ((ga u 1 (Int32.toNatClampNeg a0))).toInt) (Y := (-1)) rfl (by decide) c8
      refine lv_bipush (v := (-6)) hx hb dX10_write_25 (by decide) ?_
      exact hret _ _ _ _ ((-6) : Int32) _ dX10_write_27 rfl ⟨hI, (Un.si Un.rf rfl eu1), (Or.inr (Or.inl (⟨rfl, by omega⟩)))⟩ hH
  · subst e9
    refine lv_if_ne (tgt := 15) hx hb dX10_write_9 (by decide) (fun c22 => absurd c22 (by decide)) (fun c22 => ?_)
    refine lv_bipush (v := (-2)) hx hb dX10_write_12 (by decide) ?_
    exact hret _ _ _ _ ((-2) : Int32) _ dX10_write_14 rfl ⟨hI, (Un.si Un.rf rfl eu1), (Or.inl (⟨rfl, by omega⟩))⟩ hH
set_option maxHeartbeats 4000000 in
set_option maxRecDepth 100000 in
theorem kX10_tells_0 (l : Launch) (D : va_G) (C : Nat → ClassId) (A : Nat → Nat) (u : St) (hI : IM u) (sz : Nat) : MetV l yX10_tells cX10_tells 3 1 [.ref (A 0), .int 0, .int 0] D (tyl C) (mw C A) X0 u sz (fun u' => IM u' ∧ Un [] [(7, 7)] [] u u' ∧ True) := by
  refine mV (by decide) (Nat.le_of_ble_eq_true rfl) ?_
  intro p e s m below meth c ls ar Q hx hb hml hown hts hK hH hX hl hret
  have hown : s.vm.findClass RX10 = some m.cls := hown
  have hl : lv_has ls 3 [(0, .ref (A 0)), (1, .int 0), (2, .int 0)] := hl
  refine lv_aload_n hx hb dX10_tells_0 rfl (lv_at hl 0 rfl) ?_
  refine va_get (ci := 10) (v := .ref (A 7)) (C := RX10) (T := TX10) (N := 42) hx hb hts (fun w h => uc_in w (inX10 w h)) hown hK hH.1 0 (mwc0 C A u) rfl 17 (by decide) (hts _ (uc_in _ q_f1205)) (fun _ h9 => h9) rfl dX10_tells_1 ?_
  refine lv_bipush (v := 24) hx hb dX10_tells_4 (by decide) ?_
  refine lv_iload_n hx hb dX10_tells_6 rfl (lv_at hl 1 rfl) ?_
  refine lv_iadd hx hb dX10_tells_7 ?_
  refine pv_i (v := 24) (by decide) ?_
  refine lv_iload_n hx hb dX10_tells_8 rfl (lv_at hl 2 rfl) ?_
  refine r_iast (j := 7) hx hb hK hH 7 1 (mwc7 C A u) rfl (i_ix (X := 24) (by decide) (by decide) (by decide)) (mwa7 C A u) dX10_tells_9 (fun u1 eu1 H locs hH => ?_)
  have hI := hI.pah (X := 0) eu1 (by decide) (by decide) (by have q9 := hB0 (Int32.toNatClampNeg 24 % 6); omega)
  exact hret _ _ _ _ _ dX10_tells_10 ⟨hI, (Un.sa Un.rf rfl eu1), trivial⟩ hH
set_option maxHeartbeats 4000000 in
set_option maxRecDepth 100000 in
theorem kX10_tells_1 (l : Launch) (D : va_G) (C : Nat → ClassId) (A : Nat → Nat) (u : St) (hI : IM u) (a0 : Int32) (A0 : Int) (ha0 : a0.toInt = A0) (hl0 : 0 ≤ A0) (hm0 : A0 ≤ 5) (sz : Nat) : MetV l yX10_tells cX10_tells 3 1 [.ref (A 0), .int a0, .int 0] D (tyl C) (mw C A) X0 u sz (fun u' => IM u' ∧ Un [] [(7, 7)] [] u u' ∧ True) := by
  refine mV (by decide) (Nat.le_of_ble_eq_true rfl) ?_
  intro p e s m below meth c ls ar Q hx hb hml hown hts hK hH hX hl hret
  have hown : s.vm.findClass RX10 = some m.cls := hown
  have hl : lv_has ls 3 [(0, .ref (A 0)), (1, .int a0), (2, .int 0)] := hl
  refine lv_aload_n hx hb dX10_tells_0 rfl (lv_at hl 0 rfl) ?_
  refine va_get (ci := 10) (v := .ref (A 7)) (C := RX10) (T := TX10) (N := 42) hx hb hts (fun w h => uc_in w (inX10 w h)) hown hK hH.1 0 (mwc0 C A u) rfl 17 (by decide) (hts _ (uc_in _ q_f1205)) (fun _ h9 => h9) rfl dX10_tells_1 ?_
  refine lv_bipush (v := 24) hx hb dX10_tells_4 (by decide) ?_
  refine lv_iload_n hx hb dX10_tells_6 rfl (lv_at hl 1 rfl) ?_
  refine lv_iadd hx hb dX10_tells_7 ?_
  refine p_nm (tt_add (X := 24) (Y := A0) (by decide) ha0 (by omega) (by omega)) (fun z1 hz1 => ?_)
  refine lv_iload_n hx hb dX10_tells_8 rfl (lv_at hl 2 rfl) ?_
  refine r_iast (j := 7) hx hb hK hH 7 1 (mwc7 C A u) rfl (i_ix hz1 (by omega) (by omega)) (mwa7 C A u) dX10_tells_9 (fun u2 eu2 H locs hH => ?_)
  have hI := hI.pah (X := 0) eu2 (by decide) (by decide) (by have q9 := hB0 (Int32.toNatClampNeg z1 % 6); omega)
  exact hret _ _ _ _ _ dX10_tells_10 ⟨hI, (Un.sa Un.rf rfl eu2), trivial⟩ hH
set_option maxHeartbeats 4000000 in
set_option maxRecDepth 100000 in
theorem kX10_clears_0 (l : Launch) (D : va_G) (C : Nat → ClassId) (A : Nat → Nat) (u : St) (hI : IM u) (sz : Nat) : MetV l yX10_clears cX10_clears 2 2 [.ref (A 0)] D (tyl C) (mw C A) X0 u sz (fun u' => IM u' ∧ Un [] [(6, 6), (7, 7)] [] u u' ∧ True) := by
  refine mV (by decide) (Nat.le_of_ble_eq_true rfl) ?_
  intro p e s m below meth c ls ar Q hx hb hml hown hts hK hH hX hl hret
  have hown : s.vm.findClass RX10 = some m.cls := hown
  have hl : lv_has ls 2 [(0, .ref (A 0))] := hl
  refine lv_aload_n hx hb dX10_clears_0 rfl (lv_at hl 0 rfl) ?_
  refine va_get (ci := 10) (v := .ref (A 6)) (C := RX10) (T := TX10) (N := 42) hx hb hts (fun w h => uc_in w (inX10 w h)) hown hK hH.1 0 (mwc0 C A u) rfl 16 (by decide) (hts _ (uc_in _ q_f1204)) (fun _ h9 => h9) rfl dX10_clears_1 ?_
  refine lv_iconst (v := 4) hx hb dX10_clears_4 (by decide) ?_
  refine lv_iconst (v := 0) hx hb dX10_clears_5 (by decide) ?_
  refine r_iast (j := 6) hx hb hK hH 6 1 (mwc6 C A u) rfl (i_ix (X := 4) (by decide) (by decide) (by decide)) (mwa6 C A u) dX10_clears_6 (fun u1 eu1 H locs hH => ?_)
  have hI := hI.pa0 eu1 (by decide) (by decide) (by decide)
  refine lv_iconst (v := 0) hx hb dX10_clears_7 (by decide) ?_
  refine lv_istore_n (lv' := [(1, .int 0), (0, .ref (A 0))]) hx hb dX10_clears_8 rfl hl (by decide) rfl (fun ls hl => ?_)
  have lp9_45 : ∀ (n9 : Nat) (ls : Array Slot) (y44d : Int32) (u45 : St) (H : Heap) (locs : List Loc), 0 ≤ y44d.toInt → y44d.toInt ≤ 6 → 6 - y44d.toInt < (n9 : Int) → Un [] [(7, 7)] [] u1 u45 → IM u45 → Hd D (mw C A) (va_A (mw C A u) s.heap.size) s.heap u45 H locs → lv_has ls 2 [(1, .int y44d), (0, .ref (A 0))] → W p l e (rmL 2 0 0) s m ar below meth c H locs 0 0 Q (F0 m 9 ls []) := by
    intro n9
    induction n9 with
    | zero => intro ls y44d u45 H locs ly44d my44d hmun9 hUu45 hI hH hl; exfalso; omega
    | succ n9 ih9_45 =>
      intro ls y44d u45 H locs ly44d my44d hmun9 hUu45 hI hH hl
      refine lv_iload_n hx hb dX10_clears_9 rfl (lv_at hl 0 rfl) ?_
      refine lv_bipush (v := 6) hx hb dX10_clears_10 (by decide) ?_
      refine lv_icmp_ge (tgt := 27) hx hb dX10_clears_12 (by decide) (fun c47 => ?_) (fun c47 => ?_)
      · have c47 := cLE (x := 6) (y := y44d) (X := 6) (Y := y44d.toInt) (by decide) rfl c47
        exact hret _ _ _ _ _ dX10_clears_27 ⟨hI, (Un.tr (Un.sa Un.rf rfl eu1) hUu45 rfl rfl rfl), trivial⟩ hH
      · have c47 := cNLE (x := 6) (y := y44d) (X := 6) (Y := y44d.toInt) (by decide) rfl c47
        refine lv_aload_n hx hb dX10_clears_15 rfl (lv_at hl 1 rfl) ?_
        refine lv_iload_n hx hb dX10_clears_16 rfl (lv_at hl 0 rfl) ?_
        refine lv_iconst (v := 0) hx hb dX10_clears_17 (by decide) ?_
        refine cvU (n := 2) (As := [.int y44d, .int 0]) (rest := []) ⟨hx, hb, hml, hown, hts⟩ uc_in (kX10_tells_1 l D C A u45 hI y44d y44d.toInt rfl (by omega) (by omega) _) q_m1362 q_n1364 q_p53 q_i11 q_c1365 hvX10_tells ⟨(Nat.le_of_ble_eq_true rfl), (Nat.le_of_ble_eq_true rfl)⟩ ⟨(Nat.le_of_ble_eq_true rfl), (Nat.le_of_ble_eq_true rfl)⟩ hK hH (fun q h => Or.inr h) Bl0 (fun _ _ _ => trivial) 10 0 rfl (mwc0 C A u45) rfl hl.1 rfl (Nat.le_of_ble_eq_true rfl) dX10_clears_18 (fun u48 H locs p50 hH => ?_)
        obtain ⟨hI, hUu48, p50⟩ := p50
        obtain ⟨z51, ez51⟩ : ∃ z, z = y44d + Int32.ofInt 1 := ⟨_, rfl⟩
        have hz51 : z51.toInt = y44d.toInt + 1 := by rw [ez51]; exact tt_add rfl (by decide) (by omega) (by omega)
        refine lv_iinc (v := z51) (lv' := [(1, .int z51), (0, .ref (A 0))]) hx hb dX10_clears_21 hl (k := 0) rfl ez51.symm (by decide) rfl (fun ls hl => ?_)
        refine lv_goto (tgt := 9) hx hb dX10_clears_24 (by decide) ?_
        exact ih9_45 ls z51 u48 _ _ (by have q9 := (show z51.toInt = (y44d.toInt + 1) from hz51); omega) (by have q9 := (show z51.toInt = (y44d.toInt + 1) from hz51); omega) (by have q9 := (show z51.toInt = (y44d.toInt + 1) from hz51); omega) (Un.tr hUu45 hUu48 rfl rfl rfl) hI hH hl
  exact lp9_45 7 ls 0 u1 _ _ (by decide) (by decide) (by have q9 : (0 : Int32).toInt = 0 := (by decide); omega) Un.rf hI hH hl
set_option maxHeartbeats 4000000 in
set_option maxRecDepth 100000 in
theorem kX10_isByte_0 (l : Launch) (D : va_G) (C : Nat → ClassId) (A : Nat → Nat) (u : St) (hI : IM u) (a0 : Int32) (A0 : Int) (ha0 : a0.toInt = A0) (hl0 : 0 ≤ A0) (hm0 : A0 ≤ 800) : Met l yX10_isByte (uc yX10_isByte cX10_isByte 4 (some .boolean)) (rmL 1 0 0) (va_Pc [.ref (A 0), .int a0, .int 32, .int 32] (PreR D (tyl C) (mw C A u))) (vp_Si (fun r => (r = 1 ∧ A0 < (gi u 6).toInt ∧ 32 ≤ (ga u 5 (Int32.toNatClampNeg a0)).toInt ∧ (ga u 5 (Int32.toNatClampNeg a0)).toInt ≤ 32) ∨ (r = 0 ∧ ¬ (A0 < (gi u 6).toInt ∧ 32 ≤ (ga u 5 (Int32.toNatClampNeg a0)).toInt ∧ (ga u 5 (Int32.toNatClampNeg a0)).toInt ≤ 32)))) 0 0 (fun _ => False) := by
  refine mS (by decide) (Nat.le_of_ble_eq_true rfl) ?_
  intro p e s m below meth c ls ar Q hx hb hml hown hts hK hP hl hret
  have hown : s.vm.findClass RX10 = some m.cls := hown
  have hl : lv_has ls 4 [(0, .ref (A 0)), (1, .int a0), (2, .int 32), (3, .int 32)] := hl
  refine lv_iload_n hx hb dX10_isByte_0 rfl (lv_at hl 1 rfl) ?_
  refine lv_aload_n hx hb dX10_isByte_1 rfl (lv_at hl 0 rfl) ?_
  refine va_get (ci := 10) (v := .int (gi u 6)) (C := RX10) (T := TX10) (N := 42) hx hb hts (fun w h => uc_in w (inX10 w h)) hown hK hP 0 (mwc0 C A u) rfl 6 (by decide) (hts _ (uc_in _ q_f1194)) (fun _ h9 => h9) rfl dX10_isByte_2 ?_
  have b1 := hI.b6
  refine lv_icmp_ge (tgt := 32) hx hb dX10_isByte_5 (by decide) (fun c2 => ?_) (fun c2 => ?_)
  · have c2 := cLE (x := (gi u 6)) (y := a0) (X := ((gi u 6)).toInt) (Y := A0) rfl ha0 c2
    refine lv_iconst (v := 0) hx hb dX10_isByte_32 (by decide) ?_
    exact hret _ _ (0 : Int32) dX10_isByte_33 rfl (Or.inr ⟨rfl, by omega⟩)
  · have c2 := cNLE (x := (gi u 6)) (y := a0) (X := ((gi u 6)).toInt) (Y := A0) rfl ha0 c2
    refine lv_aload_n hx hb dX10_isByte_8 rfl (lv_at hl 0 rfl) ?_
    refine va_get (ci := 10) (v := .ref (A 5)) (C := RX10) (T := TX10) (N := 42) hx hb hts (fun w h => uc_in w (inX10 w h)) hown hK hP 0 (mwc0 C A u) rfl 5 (by decide) (hts _ (uc_in _ q_f1193)) (fun _ h9 => h9) rfl dX10_isByte_9 ?_
    refine lv_iload_n hx hb dX10_isByte_12 rfl (lv_at hl 1 rfl) ?_
    refine va_bald hx hb hK hP 5 0 (mwc5 C A u) rfl (i_ix ha0 (by omega) (by omega)) dX10_isByte_13 ?_
    refine pv_i (v := (ga u 5 (Int32.toNatClampNeg a0))) rfl ?_
    refine lv_iload_n hx hb dX10_isByte_14 rfl (lv_at hl 2 rfl) ?_
    refine lv_icmp_lt (tgt := 32) hx hb dX10_isByte_15 (by decide) (fun c3 => ?_) (fun c3 => ?_)
    · have c3 := cLT (x := (ga u 5 (Int32.toNatClampNeg a0))) (y := 32) (X := ((ga u 5 (Int32.toNatClampNeg a0))).toInt) (Y := 32) rfl (by decide) c3
      refine lv_iconst (v := 0) hx hb dX10_isByte_32 (by decide) ?_
      exact hret _ _ (0 : Int32) dX10_isByte_33 rfl (Or.inr ⟨rfl, by omega⟩)
    · have c3 := cNLT (x := (ga u 5 (Int32.toNatClampNeg a0))) (y := 32) (X := ((ga u 5 (Int32.toNatClampNeg a0))).toInt) (Y := 32) rfl (by decide) c3
      refine lv_aload_n hx hb dX10_isByte_18 rfl (lv_at hl 0 rfl) ?_
      refine va_get (ci := 10) (v := .ref (A 5)) (C := RX10) (T := TX10) (N := 42) hx hb hts (fun w h => uc_in w (inX10 w h)) hown hK hP 0 (mwc0 C A u) rfl 5 (by decide) (hts _ (uc_in _ q_f1193)) (fun _ h9 => h9) rfl dX10_isByte_19 ?_
      refine lv_iload_n hx hb dX10_isByte_22 rfl (lv_at hl 1 rfl) ?_
      refine va_bald hx hb hK hP 5 0 (mwc5 C A u) rfl (i_ix ha0 (by omega) (by omega)) dX10_isByte_23 ?_
      refine pv_i (v := (ga u 5 (Int32.toNatClampNeg a0))) rfl ?_
      refine lv_iload_n hx hb dX10_isByte_24 rfl (lv_at hl 3 rfl) ?_
      refine lv_icmp_gt (tgt := 32) hx hb dX10_isByte_25 (by decide) (fun c4 => ?_) (fun c4 => ?_)
      · have c4 := cLT (x := 32) (y := (ga u 5 (Int32.toNatClampNeg a0))) (X := 32) (Y := ((ga u 5 (Int32.toNatClampNeg a0))).toInt) (by decide) rfl c4
        refine lv_iconst (v := 0) hx hb dX10_isByte_32 (by decide) ?_
        exact hret _ _ (0 : Int32) dX10_isByte_33 rfl (Or.inr ⟨rfl, by omega⟩)
      · have c4 := cNLT (x := 32) (y := (ga u 5 (Int32.toNatClampNeg a0))) (X := 32) (Y := ((ga u 5 (Int32.toNatClampNeg a0))).toInt) (by decide) rfl c4
        refine lv_iconst (v := 1) hx hb dX10_isByte_28 (by decide) ?_
        refine lv_goto (tgt := 33) hx hb dX10_isByte_29 (by decide) ?_
        exact hret _ _ (1 : Int32) dX10_isByte_33 rfl (Or.inl ⟨rfl, by omega, by omega, by omega⟩)
set_option maxHeartbeats 4000000 in
set_option maxRecDepth 100000 in
theorem kX10_isByte_1 (l : Launch) (D : va_G) (C : Nat → ClassId) (A : Nat → Nat) (u : St) (hI : IM u) (a0 : Int32) (A0 : Int) (ha0 : a0.toInt = A0) (hl0 : 0 ≤ A0) (hm0 : A0 ≤ 800) : Met l yX10_isByte (uc yX10_isByte cX10_isByte 4 (some .boolean)) (rmL 1 0 0) (va_Pc [.ref (A 0), .int a0, .int 10, .int 10] (PreR D (tyl C) (mw C A u))) (vp_Si (fun r => (r = 1 ∧ A0 < (gi u 6).toInt ∧ 10 ≤ (ga u 5 (Int32.toNatClampNeg a0)).toInt ∧ (ga u 5 (Int32.toNatClampNeg a0)).toInt ≤ 10) ∨ (r = 0 ∧ ¬ (A0 < (gi u 6).toInt ∧ 10 ≤ (ga u 5 (Int32.toNatClampNeg a0)).toInt ∧ (ga u 5 (Int32.toNatClampNeg a0)).toInt ≤ 10)))) 0 0 (fun _ => False) := by
  refine mS (by decide) (Nat.le_of_ble_eq_true rfl) ?_
  intro p e s m below meth c ls ar Q hx hb hml hown hts hK hP hl hret
  have hown : s.vm.findClass RX10 = some m.cls := hown
  have hl : lv_has ls 4 [(0, .ref (A 0)), (1, .int a0), (2, .int 10), (3, .int 10)] := hl
  refine lv_iload_n hx hb dX10_isByte_0 rfl (lv_at hl 1 rfl) ?_
  refine lv_aload_n hx hb dX10_isByte_1 rfl (lv_at hl 0 rfl) ?_
  refine va_get (ci := 10) (v := .int (gi u 6)) (C := RX10) (T := TX10) (N := 42) hx hb hts (fun w h => uc_in w (inX10 w h)) hown hK hP 0 (mwc0 C A u) rfl 6 (by decide) (hts _ (uc_in _ q_f1194)) (fun _ h9 => h9) rfl dX10_isByte_2 ?_
  have b1 := hI.b6
  refine lv_icmp_ge (tgt := 32) hx hb dX10_isByte_5 (by decide) (fun c2 => ?_) (fun c2 => ?_)
  · have c2 := cLE (x := (gi u 6)) (y := a0) (X := ((gi u 6)).toInt) (Y := A0) rfl ha0 c2
    refine lv_iconst (v := 0) hx hb dX10_isByte_32 (by decide) ?_
    exact hret _ _ (0 : Int32) dX10_isByte_33 rfl (Or.inr ⟨rfl, by omega⟩)
  · have c2 := cNLE (x := (gi u 6)) (y := a0) (X := ((gi u 6)).toInt) (Y := A0) rfl ha0 c2
    refine lv_aload_n hx hb dX10_isByte_8 rfl (lv_at hl 0 rfl) ?_
    refine va_get (ci := 10) (v := .ref (A 5)) (C := RX10) (T := TX10) (N := 42) hx hb hts (fun w h => uc_in w (inX10 w h)) hown hK hP 0 (mwc0 C A u) rfl 5 (by decide) (hts _ (uc_in _ q_f1193)) (fun _ h9 => h9) rfl dX10_isByte_9 ?_
    refine lv_iload_n hx hb dX10_isByte_12 rfl (lv_at hl 1 rfl) ?_
    refine va_bald hx hb hK hP 5 0 (mwc5 C A u) rfl (i_ix ha0 (by omega) (by omega)) dX10_isByte_13 ?_
    refine pv_i (v := (ga u 5 (Int32.toNatClampNeg a0))) rfl ?_
    refine lv_iload_n hx hb dX10_isByte_14 rfl (lv_at hl 2 rfl) ?_
    refine lv_icmp_lt (tgt := 32) hx hb dX10_isByte_15 (by decide) (fun c3 => ?_) (fun c3 => ?_)
    · have c3 := cLT (x := (ga u 5 (Int32.toNatClampNeg a0))) (y := 10) (X := ((ga u 5 (Int32.toNatClampNeg a0))).toInt) (Y := 10) rfl (by decide) c3
      refine lv_iconst (v := 0) hx hb dX10_isByte_32 (by decide) ?_
      exact hret _ _ (0 : Int32) dX10_isByte_33 rfl (Or.inr ⟨rfl, by omega⟩)
    · have c3 := cNLT (x := (ga u 5 (Int32.toNatClampNeg a0))) (y := 10) (X := ((ga u 5 (Int32.toNatClampNeg a0))).toInt) (Y := 10) rfl (by decide) c3
      refine lv_aload_n hx hb dX10_isByte_18 rfl (lv_at hl 0 rfl) ?_
      refine va_get (ci := 10) (v := .ref (A 5)) (C := RX10) (T := TX10) (N := 42) hx hb hts (fun w h => uc_in w (inX10 w h)) hown hK hP 0 (mwc0 C A u) rfl 5 (by decide) (hts _ (uc_in _ q_f1193)) (fun _ h9 => h9) rfl dX10_isByte_19 ?_
      refine lv_iload_n hx hb dX10_isByte_22 rfl (lv_at hl 1 rfl) ?_
      refine va_bald hx hb hK hP 5 0 (mwc5 C A u) rfl (i_ix ha0 (by omega) (by omega)) dX10_isByte_23 ?_
      refine pv_i (v := (ga u 5 (Int32.toNatClampNeg a0))) rfl ?_
      refine lv_iload_n hx hb dX10_isByte_24 rfl (lv_at hl 3 rfl) ?_
      refine lv_icmp_gt (tgt := 32) hx hb dX10_isByte_25 (by decide) (fun c4 => ?_) (fun c4 => ?_)
      · have c4 := cLT (x := 10) (y := (ga u 5 (Int32.toNatClampNeg a0))) (X := 10) (Y := ((ga u 5 (Int32.toNatClampNeg a0))).toInt) (by decide) rfl c4
        refine lv_iconst (v := 0) hx hb dX10_isByte_32 (by decide) ?_
        exact hret _ _ (0 : Int32) dX10_isByte_33 rfl (Or.inr ⟨rfl, by omega⟩)
      · have c4 := cNLT (x := 10) (y := (ga u 5 (Int32.toNatClampNeg a0))) (X := 10) (Y := ((ga u 5 (Int32.toNatClampNeg a0))).toInt) (by decide) rfl c4
        refine lv_iconst (v := 1) hx hb dX10_isByte_28 (by decide) ?_
        refine lv_goto (tgt := 33) hx hb dX10_isByte_29 (by decide) ?_
        exact hret _ _ (1 : Int32) dX10_isByte_33 rfl (Or.inl ⟨rfl, by omega, by omega, by omega⟩)
set_option maxHeartbeats 4000000 in
set_option maxRecDepth 100000 in
theorem kX10_isByte_2 (l : Launch) (D : va_G) (C : Nat → ClassId) (A : Nat → Nat) (u : St) (hI : IM u) (a0 : Int32) (A0 : Int) (ha0 : a0.toInt = A0) (hl0 : 0 ≤ A0) (hm0 : A0 ≤ 800) : Met l yX10_isByte (uc yX10_isByte cX10_isByte 4 (some .boolean)) (rmL 1 0 0) (va_Pc [.ref (A 0), .int a0, .int 97, .int 122] (PreR D (tyl C) (mw C A u))) (vp_Si (fun r => (r = 1 ∧ A0 < (gi u 6).toInt ∧ 97 ≤ (ga u 5 (Int32.toNatClampNeg a0)).toInt ∧ (ga u 5 (Int32.toNatClampNeg a0)).toInt ≤ 122) ∨ (r = 0 ∧ ¬ (A0 < (gi u 6).toInt ∧ 97 ≤ (ga u 5 (Int32.toNatClampNeg a0)).toInt ∧ (ga u 5 (Int32.toNatClampNeg a0)).toInt ≤ 122)))) 0 0 (fun _ => False) := by
  refine mS (by decide) (Nat.le_of_ble_eq_true rfl) ?_
  intro p e s m below meth c ls ar Q hx hb hml hown hts hK hP hl hret
  have hown : s.vm.findClass RX10 = some m.cls := hown
  have hl : lv_has ls 4 [(0, .ref (A 0)), (1, .int a0), (2, .int 97), (3, .int 122)] := hl
  refine lv_iload_n hx hb dX10_isByte_0 rfl (lv_at hl 1 rfl) ?_
  refine lv_aload_n hx hb dX10_isByte_1 rfl (lv_at hl 0 rfl) ?_
  refine va_get (ci := 10) (v := .int (gi u 6)) (C := RX10) (T := TX10) (N := 42) hx hb hts (fun w h => uc_in w (inX10 w h)) hown hK hP 0 (mwc0 C A u) rfl 6 (by decide) (hts _ (uc_in _ q_f1194)) (fun _ h9 => h9) rfl dX10_isByte_2 ?_
  have b1 := hI.b6
  refine lv_icmp_ge (tgt := 32) hx hb dX10_isByte_5 (by decide) (fun c2 => ?_) (fun c2 => ?_)
  · have c2 := cLE (x := (gi u 6)) (y := a0) (X := ((gi u 6)).toInt) (Y := A0) rfl ha0 c2
    refine lv_iconst (v := 0) hx hb dX10_isByte_32 (by decide) ?_
    exact hret _ _ (0 : Int32) dX10_isByte_33 rfl (Or.inr ⟨rfl, by omega⟩)
  · have c2 := cNLE (x := (gi u 6)) (y := a0) (X := ((gi u 6)).toInt) (Y := A0) rfl ha0 c2
    refine lv_aload_n hx hb dX10_isByte_8 rfl (lv_at hl 0 rfl) ?_
    refine va_get (ci := 10) (v := .ref (A 5)) (C := RX10) (T := TX10) (N := 42) hx hb hts (fun w h => uc_in w (inX10 w h)) hown hK hP 0 (mwc0 C A u) rfl 5 (by decide) (hts _ (uc_in _ q_f1193)) (fun _ h9 => h9) rfl dX10_isByte_9 ?_
    refine lv_iload_n hx hb dX10_isByte_12 rfl (lv_at hl 1 rfl) ?_
    refine va_bald hx hb hK hP 5 0 (mwc5 C A u) rfl (i_ix ha0 (by omega) (by omega)) dX10_isByte_13 ?_
    refine pv_i (v := (ga u 5 (Int32.toNatClampNeg a0))) rfl ?_
    refine lv_iload_n hx hb dX10_isByte_14 rfl (lv_at hl 2 rfl) ?_
    refine lv_icmp_lt (tgt := 32) hx hb dX10_isByte_15 (by decide) (fun c3 => ?_) (fun c3 => ?_)
    · have c3 := cLT (x := (ga u 5 (Int32.toNatClampNeg a0))) (y := 97) (X := ((ga u 5 (Int32.toNatClampNeg a0))).toInt) (Y := 97) rfl (by decide) c3
      refine lv_iconst (v := 0) hx hb dX10_isByte_32 (by decide) ?_
      exact hret _ _ (0 : Int32) dX10_isByte_33 rfl (Or.inr ⟨rfl, by omega⟩)
    · have c3 := cNLT (x := (ga u 5 (Int32.toNatClampNeg a0))) (y := 97) (X := ((ga u 5 (Int32.toNatClampNeg a0))).toInt) (Y := 97) rfl (by decide) c3
      refine lv_aload_n hx hb dX10_isByte_18 rfl (lv_at hl 0 rfl) ?_
      refine va_get (ci := 10) (v := .ref (A 5)) (C := RX10) (T := TX10) (N := 42) hx hb hts (fun w h => uc_in w (inX10 w h)) hown hK hP 0 (mwc0 C A u) rfl 5 (by decide) (hts _ (uc_in _ q_f1193)) (fun _ h9 => h9) rfl dX10_isByte_19 ?_
      refine lv_iload_n hx hb dX10_isByte_22 rfl (lv_at hl 1 rfl) ?_
      refine va_bald hx hb hK hP 5 0 (mwc5 C A u) rfl (i_ix ha0 (by omega) (by omega)) dX10_isByte_23 ?_
      refine pv_i (v := (ga u 5 (Int32.toNatClampNeg a0))) rfl ?_
      refine lv_iload_n hx hb dX10_isByte_24 rfl (lv_at hl 3 rfl) ?_
      refine lv_icmp_gt (tgt := 32) hx hb dX10_isByte_25 (by decide) (fun c4 => ?_) (fun c4 => ?_)
      · have c4 := cLT (x := 122) (y := (ga u 5 (Int32.toNatClampNeg a0))) (X := 122) (Y := ((ga u 5 (Int32.toNatClampNeg a0))).toInt) (by decide) rfl c4
        refine lv_iconst (v := 0) hx hb dX10_isByte_32 (by decide) ?_
        exact hret _ _ (0 : Int32) dX10_isByte_33 rfl (Or.inr ⟨rfl, by omega⟩)
      · have c4 := cNLT (x := 122) (y := (ga u 5 (Int32.toNatClampNeg a0))) (X := 122) (Y := ((ga u 5 (Int32.toNatClampNeg a0))).toInt) (by decide) rfl c4
        refine lv_iconst (v := 1) hx hb dX10_isByte_28 (by decide) ?_
        refine lv_goto (tgt := 33) hx hb dX10_isByte_29 (by decide) ?_
        exact hret _ _ (1 : Int32) dX10_isByte_33 rfl (Or.inl ⟨rfl, by omega, by omega, by omega⟩)
set_option maxHeartbeats 4000000 in
set_option maxRecDepth 100000 in
theorem kX10_isByte_3 (l : Launch) (D : va_G) (C : Nat → ClassId) (A : Nat → Nat) (u : St) (hI : IM u) (a0 : Int32) (A0 : Int) (ha0 : a0.toInt = A0) (hl0 : 0 ≤ A0) (hm0 : A0 ≤ 800) : Met l yX10_isByte (uc yX10_isByte cX10_isByte 4 (some .boolean)) (rmL 1 0 0) (va_Pc [.ref (A 0), .int a0, .int 48, .int 57] (PreR D (tyl C) (mw C A u))) (vp_Si (fun r => (r = 1 ∧ A0 < (gi u 6).toInt ∧ 48 ≤ (ga u 5 (Int32.toNatClampNeg a0)).toInt ∧ (ga u 5 (Int32.toNatClampNeg a0)).toInt ≤ 57) ∨ (r = 0 ∧ ¬ (A0 < (gi u 6).toInt ∧ 48 ≤ (ga u 5 (Int32.toNatClampNeg a0)).toInt ∧ (ga u 5 (Int32.toNatClampNeg a0)).toInt ≤ 57)))) 0 0 (fun _ => False) := by
  refine mS (by decide) (Nat.le_of_ble_eq_true rfl) ?_
  intro p e s m below meth c ls ar Q hx hb hml hown hts hK hP hl hret
  have hown : s.vm.findClass RX10 = some m.cls := hown
  have hl : lv_has ls 4 [(0, .ref (A 0)), (1, .int a0), (2, .int 48), (3, .int 57)] := hl
  refine lv_iload_n hx hb dX10_isByte_0 rfl (lv_at hl 1 rfl) ?_
  refine lv_aload_n hx hb dX10_isByte_1 rfl (lv_at hl 0 rfl) ?_
  refine va_get (ci := 10) (v := .int (gi u 6)) (C := RX10) (T := TX10) (N := 42) hx hb hts (fun w h => uc_in w (inX10 w h)) hown hK hP 0 (mwc0 C A u) rfl 6 (by decide) (hts _ (uc_in _ q_f1194)) (fun _ h9 => h9) rfl dX10_isByte_2 ?_
  have b1 := hI.b6
  refine lv_icmp_ge (tgt := 32) hx hb dX10_isByte_5 (by decide) (fun c2 => ?_) (fun c2 => ?_)
  · have c2 := cLE (x := (gi u 6)) (y := a0) (X := ((gi u 6)).toInt) (Y := A0) rfl ha0 c2
    refine lv_iconst (v := 0) hx hb dX10_isByte_32 (by decide) ?_
    exact hret _ _ (0 : Int32) dX10_isByte_33 rfl (Or.inr ⟨rfl, by omega⟩)
  · have c2 := cNLE (x := (gi u 6)) (y := a0) (X := ((gi u 6)).toInt) (Y := A0) rfl ha0 c2
    refine lv_aload_n hx hb dX10_isByte_8 rfl (lv_at hl 0 rfl) ?_
    refine va_get (ci := 10) (v := .ref (A 5)) (C := RX10) (T := TX10) (N := 42) hx hb hts (fun w h => uc_in w (inX10 w h)) hown hK hP 0 (mwc0 C A u) rfl 5 (by decide) (hts _ (uc_in _ q_f1193)) (fun _ h9 => h9) rfl dX10_isByte_9 ?_
    refine lv_iload_n hx hb dX10_isByte_12 rfl (lv_at hl 1 rfl) ?_
    refine va_bald hx hb hK hP 5 0 (mwc5 C A u) rfl (i_ix ha0 (by omega) (by omega)) dX10_isByte_13 ?_
    refine pv_i (v := (ga u 5 (Int32.toNatClampNeg a0))) rfl ?_
    refine lv_iload_n hx hb dX10_isByte_14 rfl (lv_at hl 2 rfl) ?_
    refine lv_icmp_lt (tgt := 32) hx hb dX10_isByte_15 (by decide) (fun c3 => ?_) (fun c3 => ?_)
    · have c3 := cLT (x := (ga u 5 (Int32.toNatClampNeg a0))) (y := 48) (X := ((ga u 5 (Int32.toNatClampNeg a0))).toInt) (Y := 48) rfl (by decide) c3
      refine lv_iconst (v := 0) hx hb dX10_isByte_32 (by decide) ?_
      exact hret _ _ (0 : Int32) dX10_isByte_33 rfl (Or.inr ⟨rfl, by omega⟩)
    · have c3 := cNLT (x := (ga u 5 (Int32.toNatClampNeg a0))) (y := 48) (X := ((ga u 5 (Int32.toNatClampNeg a0))).toInt) (Y := 48) rfl (by decide) c3
      refine lv_aload_n hx hb dX10_isByte_18 rfl (lv_at hl 0 rfl) ?_
      refine va_get (ci := 10) (v := .ref (A 5)) (C := RX10) (T := TX10) (N := 42) hx hb hts (fun w h => uc_in w (inX10 w h)) hown hK hP 0 (mwc0 C A u) rfl 5 (by decide) (hts _ (uc_in _ q_f1193)) (fun _ h9 => h9) rfl dX10_isByte_19 ?_
      refine lv_iload_n hx hb dX10_isByte_22 rfl (lv_at hl 1 rfl) ?_
      refine va_bald hx hb hK hP 5 0 (mwc5 C A u) rfl (i_ix ha0 (by omega) (by omega)) dX10_isByte_23 ?_
      refine pv_i (v := (ga u 5 (Int32.toNatClampNeg a0))) rfl ?_
      refine lv_iload_n hx hb dX10_isByte_24 rfl (lv_at hl 3 rfl) ?_
      refine lv_icmp_gt (tgt := 32) hx hb dX10_isByte_25 (by decide) (fun c4 => ?_) (fun c4 => ?_)
      · have c4 := cLT (x := 57) (y := (ga u 5 (Int32.toNatClampNeg a0))) (X := 57) (Y := ((ga u 5 (Int32.toNatClampNeg a0))).toInt) (by decide) rfl c4
        refine lv_iconst (v := 0) hx hb dX10_isByte_32 (by decide) ?_
        exact hret _ _ (0 : Int32) dX10_isByte_33 rfl (Or.inr ⟨rfl, by omega⟩)
      · have c4 := cNLT (x := 57) (y := (ga u 5 (Int32.toNatClampNeg a0))) (X := 57) (Y := ((ga u 5 (Int32.toNatClampNeg a0))).toInt) (by decide) rfl c4
        refine lv_iconst (v := 1) hx hb dX10_isByte_28 (by decide) ?_
        refine lv_goto (tgt := 33) hx hb dX10_isByte_29 (by decide) ?_
        exact hret _ _ (1 : Int32) dX10_isByte_33 rfl (Or.inl ⟨rfl, by omega, by omega, by omega⟩)
set_option maxHeartbeats 4000000 in
set_option maxRecDepth 100000 in
theorem kX10_next_0 (l : Launch) (D : va_G) (C : Nat → ClassId) (A : Nat → Nat) (u : St) (hI : IM u) (hA : (gi u 7).toInt ≤ (gi u 6).toInt ∧ (gi u 6).toInt ≤ 800) (sz : Nat) : MetV l yX10_next cX10_next 2 2 [.ref (A 0)] D (tyl C) (mw C A) X0 u sz (fun u' => IM u' ∧ Un [(7, 7), (8, 8), (9, 9), (10, 10)] [] [] u u' ∧ (gi u 7).toInt ≤ (gi u' 9).toInt ∧ (gi u' 9).toInt ≤ (gi u' 7).toInt ∧ (gi u' 7).toInt ≤ (gi u 6).toInt ∧ ((gi u' 8).toInt = 0 ∨ (gi u' 9).toInt < (gi u' 7).toInt)) := by
  refine mV (by decide) (Nat.le_of_ble_eq_true rfl) ?_
  intro p e s m below meth c ls ar Q hx hb hml hown hts hK hH hX hl hret
  have hown : s.vm.findClass RX10 = some m.cls := hown
  have hl : lv_has ls 2 [(0, .ref (A 0))] := hl
  have lp0_4194 : ∀ (n0 : Nat) (ls : Array Slot) (u4194 : St) (H : Heap) (locs : List Loc), (gi u 7).toInt ≤ (gi u4194 7).toInt ∧ (gi u4194 7).toInt ≤ (gi u 6).toInt → 800 - (gi u4194 7).toInt < (n0 : Int) → Un [(7, 7), (8, 8), (9, 9), (10, 10)] [] [] u u4194 → IM u4194 → Hd D (mw C A) (va_A (mw C A u) s.heap.size) s.heap u4194 H locs → lv_has ls 2 [(0, .ref (A 0))] → W p l e (rmL 2 0 0) s m ar below meth c H locs 0 0 Q (F0 m 0 ls []) := by
    intro n0
    induction n0 with
    | zero => intro ls u4194 H locs x0_0 hmun0 hUu4194 hI hH hl; exfalso; have q9 := hI.b7; omega
    | succ n0 ih0_4194 =>
      intro ls u4194 H locs x0_0 hmun0 hUu4194 hI hH hl
      refine lv_aload_n hx hb dX10_next_0 rfl (lv_at hl 0 rfl) ?_
      refine lv_aload_n hx hb dX10_next_1 rfl (lv_at hl 0 rfl) ?_
      refine va_get (ci := 10) (v := .int (gi u4194 7)) (C := RX10) (T := TX10) (N := 42) hx hb hts (fun w h => uc_in w (inX10 w h)) hown hK hH.1 0 (mwc0 C A u4194) rfl 7 (by decide) (hts _ (uc_in _ q_f1195)) (fun _ h9 => h9) rfl dX10_next_2 ?_
      have b4196 := hI.b7
      refine lv_bipush (v := 32) hx hb dX10_next_5 (by decide) ?_
      refine lv_bipush (v := 32) hx hb dX10_next_7 (by decide) ?_
      refine cvS (n := 3) (As := [.int (gi u4194 7), .int 32, .int 32]) (rest := []) ⟨hx, hb, hml, hown, hts⟩ uc_in (kX10_isByte_0 l D C A u4194 hI (gi u4194 7) (((gi u4194 7)).toInt) rfl (by omega) (by omega)) q_m1374 q_n1376 q_p56 q_i11 q_c1377 hvX10_isByte ⟨(Nat.le_of_ble_eq_true rfl), (Nat.le_of_ble_eq_true rfl)⟩ ⟨(Nat.le_of_ble_eq_true rfl), (Nat.le_of_ble_eq_true rfl)⟩ hK hH.1 10 0 rfl (mwc0 C A u4194) rfl hl.1 rfl (Nat.le_of_ble_eq_true rfl) dX10_next_9 (fun r4197 p4198 => ?_)
      have q4199 := (congrArg Int32.toInt ((hUu4194.1 6 rfl).trans rfl)).trans rfl
      rcases p4198 with ⟨e9, f4200, f4201, f4202⟩ | ⟨e9, f4203⟩
      · subst e9
        refine lv_if_ne (tgt := 30) hx hb dX10_next_12 (by decide) (fun c4204 => ?_) (fun c4204 => absurd c4204 (by decide))
        refine lv_aload_n hx hb dX10_next_30 rfl (lv_at hl 0 rfl) ?_
        refine lv_dup hx hb dX10_next_31 rfl ?_
        refine va_get (ci := 10) (v := .int (gi u4194 7)) (C := RX10) (T := TX10) (N := 42) hx hb hts (fun w h => uc_in w (inX10 w h)) hown hK hH.1 0 (mwc0 C A u4194) rfl 7 (by decide) (hts _ (uc_in _ q_f1195)) (fun _ h9 => h9) rfl dX10_next_32 ?_
        refine lv_iconst (v := 1) hx hb dX10_next_35 (by decide) ?_
        refine lv_iadd hx hb dX10_next_36 ?_
        refine p_nm (tt_add (X := ((gi u4194 7)).toInt) (Y := 1) rfl (by decide) (by omega) (by omega)) (fun z4205 hz4205 => ?_)
        refine r_put (j := 7) (ci := 10) (C := RX10) (T := TX10) (N := 42) hx hb hts (fun w h => uc_in w (inX10 w h)) tyX10 tyX10_ok nmX10 hown hK hH 0 (mwc0 C A u4194) rfl 7 (by decide) (hts _ (uc_in _ q_f1195)) (fun _ h9 => h9) rfl (by decide +kernel) (Nat.le_of_ble_eq_true rfl) (mws7 C A u4194 _) dX10_next_37 (fun u4206 eu4206 H locs hH => ?_)
        have hI := hI.s7 eu4206 hz4205 (by omega) (by omega)
        refine lv_goto (tgt := 0) hx hb dX10_next_40 (by decide) ?_
        exact ih0_4194 ls u4206 _ _ (by have q7 := (show (gi u4206 7).toInt = (((gi u4194 7)).toInt + 1) from (congrArg Int32.toInt (show gi u4206 7 = z4205 from (gi_si eu4206))).trans hz4205); omega) (by have q8 := hI.b7; have q9 : (gi u4206 7).toInt = (((gi u4194 7)).toInt + 1) := (congrArg Int32.toInt (gi_si eu4206)).trans hz4205; omega) (Un.si hUu4194 rfl eu4206) hI hH hl
      · subst e9
        refine lv_if_ne (tgt := 30) hx hb dX10_next_12 (by decide) (fun c4207 => absurd c4207 (by decide)) (fun c4207 => ?_)
        refine lv_aload_n hx hb dX10_next_15 rfl (lv_at hl 0 rfl) ?_
        refine lv_aload_n hx hb dX10_next_16 rfl (lv_at hl 0 rfl) ?_
        refine va_get (ci := 10) (v := .int (gi u4194 7)) (C := RX10) (T := TX10) (N := 42) hx hb hts (fun w h => uc_in w (inX10 w h)) hown hK hH.1 0 (mwc0 C A u4194) rfl 7 (by decide) (hts _ (uc_in _ q_f1195)) (fun _ h9 => h9) rfl dX10_next_17 ?_
        refine lv_bipush (v := 10) hx hb dX10_next_20 (by decide) ?_
        refine lv_bipush (v := 10) hx hb dX10_next_22 (by decide) ?_
        refine cvS (n := 3) (As := [.int (gi u4194 7), .int 10, .int 10]) (rest := []) ⟨hx, hb, hml, hown, hts⟩ uc_in (kX10_isByte_1 l D C A u4194 hI (gi u4194 7) (((gi u4194 7)).toInt) rfl (by omega) (by omega)) q_m1374 q_n1376 q_p56 q_i11 q_c1377 hvX10_isByte ⟨(Nat.le_of_ble_eq_true rfl), (Nat.le_of_ble_eq_true rfl)⟩ ⟨(Nat.le_of_ble_eq_true rfl), (Nat.le_of_ble_eq_true rfl)⟩ hK hH.1 10 0 rfl (mwc0 C A u4194) rfl hl.1 rfl (Nat.le_of_ble_eq_true rfl) dX10_next_24 (fun r4208 p4209 => ?_)
        have q4210 := (congrArg Int32.toInt ((hUu4194.1 6 rfl).trans rfl)).trans rfl
        rcases p4209 with ⟨e9, f4211, f4212, f4213⟩ | ⟨e9, f4214⟩
        · subst e9
          refine lv_if_eq (tgt := 43) hx hb dX10_next_27 (by decide) (fun c4215 => absurd c4215 (by decide)) (fun c4215 => ?_)
          refine lv_aload_n hx hb dX10_next_30 rfl (lv_at hl 0 rfl) ?_
          refine lv_dup hx hb dX10_next_31 rfl ?_
          refine va_get (ci := 10) (v := .int (gi u4194 7)) (C := RX10) (T := TX10) (N := 42) hx hb hts (fun w h => uc_in w (inX10 w h)) hown hK hH.1 0 (mwc0 C A u4194) rfl 7 (by decide) (hts _ (uc_in _ q_f1195)) (fun _ h9 => h9) rfl dX10_next_32 ?_
          refine lv_iconst (v := 1) hx hb dX10_next_35 (by decide) ?_
          refine lv_iadd hx hb dX10_next_36 ?_
          refine p_nm (tt_add (X := ((gi u4194 7)).toInt) (Y := 1) rfl (by decide) (by omega) (by omega)) (fun z4216 hz4216 => ?_)
          refine r_put (j := 7) (ci := 10) (C := RX10) (T := TX10) (N := 42) hx hb hts (fun w h => uc_in w (inX10 w h)) tyX10 tyX10_ok nmX10 hown hK hH 0 (mwc0 C A u4194) rfl 7 (by decide) (hts _ (uc_in _ q_f1195)) (fun _ h9 => h9) rfl (by decide +kernel) (Nat.le_of_ble_eq_true rfl) (mws7 C A u4194 _) dX10_next_37 (fun u4217 eu4217 H locs hH => ?_)
          have hI := hI.s7 eu4217 hz4216 (by omega) (by omega)
          refine lv_goto (tgt := 0) hx hb dX10_next_40 (by decide) ?_
          exact ih0_4194 ls u4217 _ _ (by have q7 := (show (gi u4217 7).toInt = (((gi u4194 7)).toInt + 1) from (congrArg Int32.toInt (show gi u4217 7 = z4216 from (gi_si eu4217))).trans hz4216); omega) (by have q8 := hI.b7; have q9 : (gi u4217 7).toInt = (((gi u4194 7)).toInt + 1) := (congrArg Int32.toInt (gi_si eu4217)).trans hz4216; omega) (Un.si hUu4194 rfl eu4217) hI hH hl
        · subst e9
          refine lv_if_eq (tgt := 43) hx hb dX10_next_27 (by decide) (fun c4218 => ?_) (fun c4218 => absurd c4218 (by decide))
          refine lv_aload_n hx hb dX10_next_43 rfl (lv_at hl 0 rfl) ?_
          refine lv_aload_n hx hb dX10_next_44 rfl (lv_at hl 0 rfl) ?_
          refine va_get (ci := 10) (v := .int (gi u4194 7)) (C := RX10) (T := TX10) (N := 42) hx hb hts (fun w h => uc_in w (inX10 w h)) hown hK hH.1 0 (mwc0 C A u4194) rfl 7 (by decide) (hts _ (uc_in _ q_f1195)) (fun _ h9 => h9) rfl dX10_next_45 ?_
          refine r_put (j := 9) (ci := 10) (C := RX10) (T := TX10) (N := 42) hx hb hts (fun w h => uc_in w (inX10 w h)) tyX10 tyX10_ok nmX10 hown hK hH 0 (mwc0 C A u4194) rfl 9 (by decide) (hts _ (uc_in _ q_f1197)) (fun _ h9 => h9) rfl (by decide +kernel) (Nat.le_of_ble_eq_true rfl) (mws9 C A u4194 _) dX10_next_48 (fun u4219 eu4219 H locs hH => ?_)
          have hI := hI.pi0 eu4219 rfl
          refine lv_aload_n hx hb dX10_next_51 rfl (lv_at hl 0 rfl) ?_
          refine lv_iconst (v := 0) hx hb dX10_next_52 (by decide) ?_
          refine r_put (j := 10) (ci := 10) (C := RX10) (T := TX10) (N := 42) hx hb hts (fun w h => uc_in w (inX10 w h)) tyX10 tyX10_ok nmX10 hown hK hH 0 (mwc0 C A u4219) rfl 10 (by decide) (hts _ (uc_in _ q_f1198)) (fun _ h9 => h9) rfl (by decide +kernel) (Nat.le_of_ble_eq_true rfl) (mws10 C A u4219 _) dX10_next_53 (fun u4220 eu4220 H locs hH => ?_)
          have hI := hI.pi0 eu4220 rfl
          refine lv_aload_n hx hb dX10_next_56 rfl (lv_at hl 0 rfl) ?_
          refine lv_lconst (v := 0) hx hb dX10_next_57 (by decide) ?_
          refine r_putl (j := 11) (ci := 10) (C := RX10) (T := TX10) (N := 42) hx hb hts (fun w h => uc_in w (inX10 w h)) tyX10 tyX10_ok nmX10 hown hK hH 0 (mwc0 C A u4220) rfl 11 (by decide) (hts _ (uc_in _ q_f1199)) (fun _ h9 => h9) rfl (by decide +kernel) (Nat.le_of_ble_eq_true rfl) (mwl11 C A u4220 _) dX10_next_58 (fun u4221 eu4221 H locs hH => ?_)
          have hI := hI.pl_ eu4221
          refine lv_aload_n hx hb dX10_next_61 rfl (lv_at hl 0 rfl) ?_
          refine va_get (ci := 10) (v := .int (gi u4221 7)) (C := RX10) (T := TX10) (N := 42) hx hb hts (fun w h => uc_in w (inX10 w h)) hown hK hH.1 0 (mwc0 C A u4221) rfl 7 (by decide) (hts _ (uc_in _ q_f1195)) (fun _ h9 => h9) rfl dX10_next_62 ?_
          refine pv_i (v := (gi u4194 7)) ((gi_sl eu4221).trans ((gi_ne eu4220 (by decide)).trans ((gi_ne eu4219 (by decide)).trans rfl))) ?_
          refine lv_aload_n hx hb dX10_next_65 rfl (lv_at hl 0 rfl) ?_
          refine va_get (ci := 10) (v := .int (gi u4221 6)) (C := RX10) (T := TX10) (N := 42) hx hb hts (fun w h => uc_in w (inX10 w h)) hown hK hH.1 0 (mwc0 C A u4221) rfl 6 (by decide) (hts _ (uc_in _ q_f1194)) (fun _ h9 => h9) rfl dX10_next_66 ?_
          refine pv_i (v := (gi u 6)) ((gi_sl eu4221).trans ((gi_ne eu4220 (by decide)).trans ((gi_ne eu4219 (by decide)).trans ((hUu4194.1 6 rfl).trans rfl)))) ?_
          refine lv_icmp_ne (tgt := 80) hx hb dX10_next_69 (by decide) (fun c4222 => ?_) (fun c4222 => ?_)
          · have c4222 := cNE (x := (gi u4194 7)) (y := (gi u 6)) (X := ((gi u4194 7)).toInt) (Y := ((gi u 6)).toInt) rfl rfl c4222
            refine lv_aload_n hx hb dX10_next_80 rfl (lv_at hl 0 rfl) ?_
            refine lv_aload_n hx hb dX10_next_81 rfl (lv_at hl 0 rfl) ?_
            refine va_get (ci := 10) (v := .int (gi u4221 7)) (C := RX10) (T := TX10) (N := 42) hx hb hts (fun w h => uc_in w (inX10 w h)) hown hK hH.1 0 (mwc0 C A u4221) rfl 7 (by decide) (hts _ (uc_in _ q_f1195)) (fun _ h9 => h9) rfl dX10_next_82 ?_
            refine pv_i (v := (gi u4194 7)) ((gi_sl eu4221).trans ((gi_ne eu4220 (by decide)).trans ((gi_ne eu4219 (by decide)).trans rfl))) ?_
            refine lv_bipush (v := 97) hx hb dX10_next_85 (by decide) ?_
            refine lv_bipush (v := 122) hx hb dX10_next_87 (by decide) ?_
            refine cvS (n := 3) (As := [.int (gi u4194 7), .int 97, .int 122]) (rest := []) ⟨hx, hb, hml, hown, hts⟩ uc_in (kX10_isByte_2 l D C A u4221 hI (gi u4194 7) (((gi u4194 7)).toInt) rfl (by omega) (by omega)) q_m1374 q_n1376 q_p56 q_i11 q_c1377 hvX10_isByte ⟨(Nat.le_of_ble_eq_true rfl), (Nat.le_of_ble_eq_true rfl)⟩ ⟨(Nat.le_of_ble_eq_true rfl), (Nat.le_of_ble_eq_true rfl)⟩ hK hH.1 10 0 rfl (mwc0 C A u4221) rfl hl.1 rfl (Nat.le_of_ble_eq_true rfl) dX10_next_89 (fun r4223 p4224 => ?_)
            have q4225 := (congrArg Int32.toInt ((gi_sl eu4221).trans ((gi_ne eu4220 (by decide)).trans ((gi_ne eu4219 (by decide)).trans ((hUu4194.1 6 rfl).trans rfl))))).trans rfl
            have q4226 : (ga u4221 5 (Int32.toNatClampNeg (gi u4194 7))).toInt = ((ga u4194 5 (Int32.toNatClampNeg (gi u4194 7)))).toInt := (congrArg Int32.toInt ((congrFun (ga_sl eu4221) _).trans ((congrFun (ga_si eu4220) _).trans ((congrFun (ga_si eu4219) _).trans rfl)))).trans rfl
            rcases p4224 with ⟨e9, f4227, f4228, f4229⟩ | ⟨e9, f4230⟩
            · subst e9
              refine lv_if_eq (tgt := 188) hx hb dX10_next_92 (by decide) (fun c4231 => absurd c4231 (by decide)) (fun c4231 => ?_)
              refine lv_aload_n hx hb dX10_next_95 rfl (lv_at hl 0 rfl) ?_
              refine lv_iconst (v := 1) hx hb dX10_next_96 (by decide) ?_
              refine r_put (j := 8) (ci := 10) (C := RX10) (T := TX10) (N := 42) hx hb hts (fun w h => uc_in w (inX10 w h)) tyX10 tyX10_ok nmX10 hown hK hH 0 (mwc0 C A u4221) rfl 8 (by decide) (hts _ (uc_in _ q_f1196)) (fun _ h9 => h9) rfl (by decide +kernel) (Nat.le_of_ble_eq_true rfl) (mws8 C A u4221 _) dX10_next_97 (fun u4232 eu4232 H locs hH => ?_)
              have hI := hI.pi0 eu4232 rfl
              refine lv_iconst (v := 0) hx hb dX10_next_100 (by decide) ?_
              refine lv_istore_n (lv' := [(1, .int 0), (0, .ref (A 0))]) hx hb dX10_next_101 rfl hl (by decide) rfl (fun ls hl => ?_)
              refine lv_aload_n hx hb dX10_next_102 rfl (lv_at hl 1 rfl) ?_
              refine lv_aload_n hx hb dX10_next_103 rfl (lv_at hl 1 rfl) ?_
              refine va_get (ci := 10) (v := .int (gi u4232 7)) (C := RX10) (T := TX10) (N := 42) hx hb hts (fun w h => uc_in w (inX10 w h)) hown hK hH.1 0 (mwc0 C A u4232) rfl 7 (by decide) (hts _ (uc_in _ q_f1195)) (fun _ h9 => h9) rfl dX10_next_104 ?_
              refine pv_i (v := (gi u4194 7)) ((gi_ne eu4232 (by decide)).trans ((gi_sl eu4221).trans ((gi_ne eu4220 (by decide)).trans ((gi_ne eu4219 (by decide)).trans rfl)))) ?_
              refine lv_bipush (v := 97) hx hb dX10_next_107 (by decide) ?_
              refine lv_bipush (v := 122) hx hb dX10_next_109 (by decide) ?_
              refine cvS (n := 3) (As := [.int (gi u4194 7), .int 97, .int 122]) (rest := []) ⟨hx, hb, hml, hown, hts⟩ uc_in (kX10_isByte_2 l D C A u4232 hI (gi u4194 7) (((gi u4194 7)).toInt) rfl (by omega) (by omega)) q_m1374 q_n1376 q_p56 q_i11 q_c1377 hvX10_isByte ⟨(Nat.le_of_ble_eq_true rfl), (Nat.le_of_ble_eq_true rfl)⟩ ⟨(Nat.le_of_ble_eq_true rfl), (Nat.le_of_ble_eq_true rfl)⟩ hK hH.1 10 0 rfl (mwc0 C A u4232) rfl hl.1 rfl (Nat.le_of_ble_eq_true rfl) dX10_next_111 (fun r4233 p4234 => ?_)
              have q4235 := (congrArg Int32.toInt ((gi_ne eu4232 (by decide)).trans ((gi_sl eu4221).trans ((gi_ne eu4220 (by decide)).trans ((gi_ne eu4219 (by decide)).trans ((hUu4194.1 6 rfl).trans rfl)))))).trans rfl
              have q4236 : (ga u4232 5 (Int32.toNatClampNeg (gi u4194 7))).toInt = ((ga u4194 5 (Int32.toNatClampNeg (gi u4194 7)))).toInt := (congrArg Int32.toInt ((congrFun (ga_si eu4232) _).trans ((congrFun (ga_sl eu4221) _).trans ((congrFun (ga_si eu4220) _).trans ((congrFun (ga_si eu4219) _).trans rfl))))).trans rfl
              rcases p4234 with ⟨e9, f4237, f4238, f4239⟩ | ⟨e9, f4240⟩
              · subst e9
                refine lv_if_eq (tgt := 185) hx hb dX10_next_114 (by decide) (fun c4241 => absurd c4241 (by decide)) (fun c4241 => ?_)
                refine lv_aload_n hx hb dX10_next_117 rfl (lv_at hl 1 rfl) ?_
                refine lv_iload_n hx hb dX10_next_118 rfl (lv_at hl 0 rfl) ?_
                refine lv_bipush (v := 11) hx hb dX10_next_119 (by decide) ?_
                refine lv_icmp_le (tgt := 130) hx hb dX10_next_121 (by decide) (fun c4242 => ?_) (fun c4242 => absurd c4242 (by decide))
                refine lv_ldc2 (v := 27) hx hb hown (hts _ (uc_in _ q_k1379)) dX10_next_130 ?_
                refine lv_aload_n hx hb dX10_next_133 rfl (lv_at hl 1 rfl) ?_
                refine va_get (ci := 10) (v := .long (gl u4232 11)) (C := RX10) (T := TX10) (N := 42) hx hb hts (fun w h => uc_in w (inX10 w h)) hown hK hH.1 0 (mwc0 C A u4232) rfl 11 (by decide) (hts _ (uc_in _ q_f1199)) (fun _ h9 => h9) rfl dX10_next_134 ?_
                refine p_anyl (fun z4243 => ?_)
                refine lv_lmul hx hb dX10_next_137 ?_
                refine p_anyl (fun z4244 => ?_)
                refine lv_aload_n hx hb dX10_next_138 rfl (lv_at hl 1 rfl) ?_
                refine va_get (ci := 10) (v := .ref (A 5)) (C := RX10) (T := TX10) (N := 42) hx hb hts (fun w h => uc_in w (inX10 w h)) hown hK hH.1 0 (mwc0 C A u4232) rfl 5 (by decide) (hts _ (uc_in _ q_f1193)) (fun _ h9 => h9) rfl dX10_next_139 ?_
                refine lv_aload_n hx hb dX10_next_142 rfl (lv_at hl 1 rfl) ?_
                refine va_get (ci := 10) (v := .int (gi u4232 7)) (C := RX10) (T := TX10) (N := 42) hx hb hts (fun w h => uc_in w (inX10 w h)) hown hK hH.1 0 (mwc0 C A u4232) rfl 7 (by decide) (hts _ (uc_in _ q_f1195)) (fun _ h9 => h9) rfl dX10_next_143 ?_
                refine pv_i (v := (gi u4194 7)) ((gi_ne eu4232 (by decide)).trans ((gi_sl eu4221).trans ((gi_ne eu4220 (by decide)).trans ((gi_ne eu4219 (by decide)).trans rfl)))) ?_
                refine va_bald hx hb hK hH.1 5 0 (mwc5 C A u4232) rfl (i_ix rfl (by omega) (by omega)) dX10_next_146 ?_
                refine pv_i (v := (ga u4194 5 (Int32.toNatClampNeg (gi u4194 7)))) ((congrFun (ga_si eu4232) _).trans ((congrFun (ga_sl eu4221) _).trans ((congrFun (ga_si eu4220) _).trans ((congrFun (ga_si eu4219) _).trans rfl)))) ?_
                refine lv_i2l (v := (ga u4194 5 (Int32.toNatClampNeg (gi u4194 7))).toInt64) hx hb dX10_next_147 rfl ?_
                refine lv_ladd hx hb dX10_next_148 ?_
                refine p_anyl (fun z4245 => ?_)
                refine lv_ldc2 (v := 96) hx hb hown (hts _ (uc_in _ q_k1380)) dX10_next_149 ?_
                refine lv_lsub hx hb dX10_next_152 ?_
                refine p_anyl (fun z4246 => ?_)
                refine r_putl (j := 11) (ci := 10) (C := RX10) (T := TX10) (N := 42) hx hb hts (fun w h => uc_in w (inX10 w h)) tyX10 tyX10_ok nmX10 hown hK hH 0 (mwc0 C A u4232) rfl 11 (by decide) (hts _ (uc_in _ q_f1199)) (fun _ h9 => h9) rfl (by decide +kernel) (Nat.le_of_ble_eq_true rfl) (mwl11 C A u4232 _) dX10_next_153 (fun u4247 eu4247 H locs hH => ?_)
                have hI := hI.pl_ eu4247
                refine lv_iload_n hx hb dX10_next_156 rfl (lv_at hl 0 rfl) ?_
                refine lv_bipush (v := 11) hx hb dX10_next_157 (by decide) ?_
                refine lv_icmp_le (tgt := 169) hx hb dX10_next_159 (by decide) (fun c4248 => ?_) (fun c4248 => absurd c4248 (by decide))
                refine lv_aload_n hx hb dX10_next_169 rfl (lv_at hl 1 rfl) ?_
                refine lv_dup hx hb dX10_next_170 rfl ?_
                refine va_get (ci := 10) (v := .int (gi u4247 7)) (C := RX10) (T := TX10) (N := 42) hx hb hts (fun w h => uc_in w (inX10 w h)) hown hK hH.1 0 (mwc0 C A u4247) rfl 7 (by decide) (hts _ (uc_in _ q_f1195)) (fun _ h9 => h9) rfl dX10_next_171 ?_
                refine pv_i (v := (gi u4194 7)) ((gi_sl eu4247).trans ((gi_ne eu4232 (by decide)).trans ((gi_sl eu4221).trans ((gi_ne eu4220 (by decide)).trans ((gi_ne eu4219 (by decide)).trans rfl))))) ?_
                refine lv_iconst (v := 1) hx hb dX10_next_174 (by decide) ?_
                refine lv_iadd hx hb dX10_next_175 ?_
                refine p_nm (tt_add (X := ((gi u4194 7)).toInt) (Y := 1) rfl (by decide) (by omega) (by omega)) (fun z4249 hz4249 => ?_)
                refine r_put (j := 7) (ci := 10) (C := RX10) (T := TX10) (N := 42) hx hb hts (fun w h => uc_in w (inX10 w h)) tyX10 tyX10_ok nmX10 hown hK hH 0 (mwc0 C A u4247) rfl 7 (by decide) (hts _ (uc_in _ q_f1195)) (fun _ h9 => h9) rfl (by decide +kernel) (Nat.le_of_ble_eq_true rfl) (mws7 C A u4247 _) dX10_next_176 (fun u4250 eu4250 H locs hH => ?_)
                have hI := hI.s7 eu4250 hz4249 (by omega) (by omega)
                refine lv_iinc (v := 1) (lv' := [(1, .int 1), (0, .ref (A 0))]) hx hb dX10_next_179 hl (k := 0) rfl (by decide) (by decide) rfl (fun ls hl => ?_)
                refine lv_goto (tgt := 102) hx hb dX10_next_182 (by decide) ?_
                have lp102_4868 : ∀ (n102 : Nat) (ls : Array Slot) (y4867d : Int32) (u4868 : St) (H : Heap) (locs : List Loc), ((gi u4194 7)).toInt < (gi u4868 7).toInt ∧ (gi u4868 7).toInt ≤ (gi u 6).toInt → 800 - (gi u4868 7).toInt < (n102 : Int) → Un [(7, 7)] [] [] u4250 u4868 → IM u4868 → Hd D (mw C A) (va_A (mw C A u) s.heap.size) s.heap u4868 H locs → lv_has ls 2 [(1, .int y4867d), (0, .ref (A 0))] → W p l e (rmL 2 0 0) s m ar below meth c H locs 0 0 Q (F0 m 102 ls []) := by
                  intro n102
                  induction n102 with
                  | zero => intro ls y4867d u4868 H locs x102_0 hmun102 hUu4868 hI hH hl; exfalso; have q9 := hI.b7; omega
                  | succ n102 ih102_4868 =>
                    intro ls y4867d u4868 H locs x102_0 hmun102 hUu4868 hI hH hl
                    refine lv_aload_n hx hb dX10_next_102 rfl (lv_at hl 1 rfl) ?_
                    refine lv_aload_n hx hb dX10_next_103 rfl (lv_at hl 1 rfl) ?_
                    refine va_get (ci := 10) (v := .int (gi u4868 7)) (C := RX10) (T := TX10) (N := 42) hx hb hts (fun w h => uc_in w (inX10 w h)) hown hK hH.1 0 (mwc0 C A u4868) rfl 7 (by decide) (hts _ (uc_in _ q_f1195)) (fun _ h9 => h9) rfl dX10_next_104 ?_
                    have b4870 := hI.b7
                    refine lv_bipush (v := 97) hx hb dX10_next_107 (by decide) ?_
                    refine lv_bipush (v := 122) hx hb dX10_next_109 (by decide) ?_
                    refine cvS (n := 3) (As := [.int (gi u4868 7), .int 97, .int 122]) (rest := []) ⟨hx, hb, hml, hown, hts⟩ uc_in (kX10_isByte_2 l D C A u4868 hI (gi u4868 7) (((gi u4868 7)).toInt) rfl (by omega) (by omega)) q_m1374 q_n1376 q_p56 q_i11 q_c1377 hvX10_isByte ⟨(Nat.le_of_ble_eq_true rfl), (Nat.le_of_ble_eq_true rfl)⟩ ⟨(Nat.le_of_ble_eq_true rfl), (Nat.le_of_ble_eq_true rfl)⟩ hK hH.1 10 0 rfl (mwc0 C A u4868) rfl hl.1 rfl (Nat.le_of_ble_eq_true rfl) dX10_next_111 (fun r4871 p4872 => ?_)
                    have q4873 := (congrArg Int32.toInt ((hUu4868.1 6 rfl).trans ((gi_ne eu4250 (by decide)).trans ((gi_sl eu4247).trans ((gi_ne eu4232 (by decide)).trans ((gi_sl eu4221).trans ((gi_ne eu4220 (by decide)).trans ((gi_ne eu4219 (by decide)).trans ((hUu4194.1 6 rfl).trans rfl))))))))).trans rfl
                    rcases p4872 with ⟨e9, f4874, f4875, f4876⟩ | ⟨e9, f4877⟩
                    · subst e9
                      refine lv_if_eq (tgt := 185) hx hb dX10_next_114 (by decide) (fun c4878 => absurd c4878 (by decide)) (fun c4878 => ?_)
                      refine lv_aload_n hx hb dX10_next_117 rfl (lv_at hl 1 rfl) ?_
                      refine lv_iload_n hx hb dX10_next_118 rfl (lv_at hl 0 rfl) ?_
                      refine lv_bipush (v := 11) hx hb dX10_next_119 (by decide) ?_
                      have j153_4892 : ∀ (ls : Array Slot) (y4884d : Int64), lv_has ls 2 [(1, .int y4867d), (0, .ref (A 0))] → W p l e (rmL 2 0 0) s m ar below meth c H locs 0 0 Q (F0 m 153 ls [.long y4884d, .ref (A 0)]) := by
                        intro ls y4884d hl
                        refine r_putl (j := 11) (ci := 10) (C := RX10) (T := TX10) (N := 42) hx hb hts (fun w h => uc_in w (inX10 w h)) tyX10 tyX10_ok nmX10 hown hK hH 0 (mwc0 C A u4868) rfl 11 (by decide) (hts _ (uc_in _ q_f1199)) (fun _ h9 => h9) rfl (by decide +kernel) (Nat.le_of_ble_eq_true rfl) (mwl11 C A u4868 _) dX10_next_153 (fun u4894 eu4894 H locs hH => ?_)
                        have hI := hI.pl_ eu4894
                        refine lv_iload_n hx hb dX10_next_156 rfl (lv_at hl 0 rfl) ?_
                        refine lv_bipush (v := 11) hx hb dX10_next_157 (by decide) ?_
                        have j169_4902 : ∀ (ls : Array Slot) (u4902 : St) (H : Heap) (locs : List Loc), Un [] [] [] u4894 u4902 → IM u4902 → Hd D (mw C A) (va_A (mw C A u) s.heap.size) s.heap u4902 H locs → lv_has ls 2 [(1, .int y4867d), (0, .ref (A 0))] → W p l e (rmL 2 0 0) s m ar below meth c H locs 0 0 Q (F0 m 169 ls []) := by
                          intro ls u4902 H locs hUu4902 hI hH hl
                          refine lv_aload_n hx hb dX10_next_169 rfl (lv_at hl 1 rfl) ?_
                          refine lv_dup hx hb dX10_next_170 rfl ?_
                          refine va_get (ci := 10) (v := .int (gi u4902 7)) (C := RX10) (T := TX10) (N := 42) hx hb hts (fun w h => uc_in w (inX10 w h)) hown hK hH.1 0 (mwc0 C A u4902) rfl 7 (by decide) (hts _ (uc_in _ q_f1195)) (fun _ h9 => h9) rfl dX10_next_171 ?_
                          refine pv_i (v := (gi u4868 7)) ((hUu4902.1 7 rfl).trans ((gi_sl eu4894).trans rfl)) ?_
                          refine lv_iconst (v := 1) hx hb dX10_next_174 (by decide) ?_
                          refine lv_iadd hx hb dX10_next_175 ?_
                          refine p_nm (tt_add (X := ((gi u4868 7)).toInt) (Y := 1) rfl (by decide) (by omega) (by omega)) (fun z4904 hz4904 => ?_)
                          refine r_put (j := 7) (ci := 10) (C := RX10) (T := TX10) (N := 42) hx hb hts (fun w h => uc_in w (inX10 w h)) tyX10 tyX10_ok nmX10 hown hK hH 0 (mwc0 C A u4902) rfl 7 (by decide) (hts _ (uc_in _ q_f1195)) (fun _ h9 => h9) rfl (by decide +kernel) (Nat.le_of_ble_eq_true rfl) (mws7 C A u4902 _) dX10_next_176 (fun u4905 eu4905 H locs hH => ?_)
                          have hI := hI.s7 eu4905 hz4904 (by omega) (by omega)
                          obtain ⟨z4906, ez4906⟩ : ∃ z, z = y4867d + Int32.ofInt 1 := ⟨_, rfl⟩
                          refine lv_iinc (v := z4906) (lv' := [(1, .int z4906), (0, .ref (A 0))]) hx hb dX10_next_179 hl (k := 0) rfl ez4906.symm (by decide) rfl (fun ls hl => ?_)
                          refine lv_goto (tgt := 102) hx hb dX10_next_182 (by decide) ?_
                          exact ih102_4868 ls z4906 u4905 _ _ (by have q7 := (show (gi u4905 7).toInt = (((gi u4868 7)).toInt + 1) from (congrArg Int32.toInt (show gi u4905 7 = z4904 from (gi_si eu4905))).trans hz4904); omega) (by have q8 := hI.b7; have q9 : (gi u4905 7).toInt = (((gi u4868 7)).toInt + 1) := (congrArg Int32.toInt (gi_si eu4905)).trans hz4904; omega) (Un.si (Un.tr (Un.sl hUu4868 eu4894) hUu4902 rfl rfl rfl) rfl eu4905) hI hH hl
                        refine lv_icmp_le (tgt := 169) hx hb dX10_next_159 (by decide) (fun c4895 => ?_) (fun c4895 => ?_)
                        · have c4895 := cLE (x := y4867d) (y := 11) (X := y4867d.toInt) (Y := 11) rfl (by decide) c4895
                          exact j169_4902 ls u4894 _ _ Un.rf hI hH hl
                        · have c4895 := cNLE (x := y4867d) (y := 11) (X := y4867d.toInt) (Y := 11) rfl (by decide) c4895
                          refine lv_aload_n hx hb dX10_next_162 rfl (lv_at hl 1 rfl) ?_
                          refine lv_ldc2 (v := (-1)) hx hb hown (hts _ (uc_in _ q_k1378)) dX10_next_163 ?_
                          refine r_putl (j := 11) (ci := 10) (C := RX10) (T := TX10) (N := 42) hx hb hts (fun w h => uc_in w (inX10 w h)) tyX10 tyX10_ok nmX10 hown hK hH 0 (mwc0 C A u4894) rfl 11 (by decide) (hts _ (uc_in _ q_f1199)) (fun _ h9 => h9) rfl (by decide +kernel) (Nat.le_of_ble_eq_true rfl) (mwl11 C A u4894 _) dX10_next_166 (fun u4907 eu4907 H locs hH => ?_)
                          have hI := hI.pl_ eu4907
                          exact j169_4902 ls u4907 _ _ (Un.sl Un.rf eu4907) hI hH hl
                      refine lv_icmp_le (tgt := 130) hx hb dX10_next_121 (by decide) (fun c4879 => ?_) (fun c4879 => ?_)
                      · have c4879 := cLE (x := y4867d) (y := 11) (X := y4867d.toInt) (Y := 11) rfl (by decide) c4879
                        refine lv_ldc2 (v := 27) hx hb hown (hts _ (uc_in _ q_k1379)) dX10_next_130 ?_
                        refine lv_aload_n hx hb dX10_next_133 rfl (lv_at hl 1 rfl) ?_
                        refine va_get (ci := 10) (v := .long (gl u4868 11)) (C := RX10) (T := TX10) (N := 42) hx hb hts (fun w h => uc_in w (inX10 w h)) hown hK hH.1 0 (mwc0 C A u4868) rfl 11 (by decide) (hts _ (uc_in _ q_f1199)) (fun _ h9 => h9) rfl dX10_next_134 ?_
                        refine p_anyl (fun z4908 => ?_)
                        refine lv_lmul hx hb dX10_next_137 ?_
                        refine p_anyl (fun z4909 => ?_)
                        refine lv_aload_n hx hb dX10_next_138 rfl (lv_at hl 1 rfl) ?_
                        refine va_get (ci := 10) (v := .ref (A 5)) (C := RX10) (T := TX10) (N := 42) hx hb hts (fun w h => uc_in w (inX10 w h)) hown hK hH.1 0 (mwc0 C A u4868) rfl 5 (by decide) (hts _ (uc_in _ q_f1193)) (fun _ h9 => h9) rfl dX10_next_139 ?_
                        refine lv_aload_n hx hb dX10_next_142 rfl (lv_at hl 1 rfl) ?_
                        refine va_get (ci := 10) (v := .int (gi u4868 7)) (C := RX10) (T := TX10) (N := 42) hx hb hts (fun w h => uc_in w (inX10 w h)) hown hK hH.1 0 (mwc0 C A u4868) rfl 7 (by decide) (hts _ (uc_in _ q_f1195)) (fun _ h9 => h9) rfl dX10_next_143 ?_
                        refine va_bald hx hb hK hH.1 5 0 (mwc5 C A u4868) rfl (i_ix rfl (by omega) (by omega)) dX10_next_146 ?_
                        refine pv_i (v := (ga u4868 5 (Int32.toNatClampNeg (gi u4868 7)))) rfl ?_
                        refine lv_i2l (v := (ga u4868 5 (Int32.toNatClampNeg (gi u4868 7))).toInt64) hx hb dX10_next_147 rfl ?_
                        refine lv_ladd hx hb dX10_next_148 ?_
                        refine p_anyl (fun z4910 => ?_)
                        refine lv_ldc2 (v := 96) hx hb hown (hts _ (uc_in _ q_k1380)) dX10_next_149 ?_
                        refine lv_lsub hx hb dX10_next_152 ?_
                        refine p_anyl (fun z4911 => ?_)
                        exact j153_4892 ls z4911 hl
                      · have c4879 := cNLE (x := y4867d) (y := 11) (X := y4867d.toInt) (Y := 11) rfl (by decide) c4879
                        refine lv_ldc2 (v := (-1)) hx hb hown (hts _ (uc_in _ q_k1378)) dX10_next_124 ?_
                        refine lv_goto (tgt := 153) hx hb dX10_next_127 (by decide) ?_
                        exact j153_4892 ls (-1) hl
                    · subst e9
                      refine lv_if_eq (tgt := 185) hx hb dX10_next_114 (by decide) (fun c4912 => ?_) (fun c4912 => absurd c4912 (by decide))
                      refine lv_goto (tgt := 307) hx hb dX10_next_185 (by decide) ?_
                      exact hret _ _ _ _ _ dX10_next_307 ⟨hI, (Un.tr (Un.si (Un.sl (Un.si (Un.sl (Un.si (Un.si (Un.tr Un.rf hUu4194 rfl rfl rfl) rfl eu4219) rfl eu4220) eu4221) rfl eu4232) eu4247) rfl eu4250) hUu4868 rfl rfl rfl), (by have q6 := (show (gi u4868 6).toInt = ((gi u 6)).toInt from (congrArg Int32.toInt (show gi u4868 6 = (gi u 6) from ((hUu4868.1 6 rfl).trans ((gi_ne eu4250 (by decide)).trans ((gi_sl eu4247).trans ((gi_ne eu4232 (by decide)).trans ((gi_sl eu4221).trans ((gi_ne eu4220 (by decide)).trans ((gi_ne eu4219 (by decide)).trans ((hUu4194.1 6 rfl).trans rfl)))))))))).trans rfl); have q7 := (show (gi u4868 7).toInt = ((gi u4868 7)).toInt from (congrArg Int32.toInt (show gi u4868 7 = (gi u4868 7) from rfl)).trans rfl); have q8 := (show (gi u4868 8).toInt = 1 from (congrArg Int32.toInt (show gi u4868 8 = 1 from ((hUu4868.1 8 rfl).trans ((gi_ne eu4250 (by decide)).trans ((gi_sl eu4247).trans (gi_si eu4232)))))).trans (by decide)); have q9 := (show (gi u4868 9).toInt = ((gi u4194 7)).toInt from (congrArg Int32.toInt (show gi u4868 9 = (gi u4194 7) from ((hUu4868.1 9 rfl).trans ((gi_ne eu4250 (by decide)).trans ((gi_sl eu4247).trans ((gi_ne eu4232 (by decide)).trans ((gi_sl eu4221).trans ((gi_ne eu4220 (by decide)).trans (gi_si eu4219))))))))).trans rfl); omega)⟩ hH
                exact lp102_4868 801 ls 1 u4250 _ _ (by have q7 := (show (gi u4250 7).toInt = (((gi u4194 7)).toInt + 1) from (congrArg Int32.toInt (show gi u4250 7 = z4249 from (gi_si eu4250))).trans hz4249); omega) (by have q8 := hI.b7; have q9 : (gi u4250 7).toInt = (((gi u4194 7)).toInt + 1) := (congrArg Int32.toInt (gi_si eu4250)).trans hz4249; omega) Un.rf hI hH hl
              · exfalso; omega
            · subst e9
              refine lv_if_eq (tgt := 188) hx hb dX10_next_92 (by decide) (fun c4913 => ?_) (fun c4913 => absurd c4913 (by decide))
              refine lv_aload_n hx hb dX10_next_188 rfl (lv_at hl 0 rfl) ?_
              refine lv_aload_n hx hb dX10_next_189 rfl (lv_at hl 0 rfl) ?_
              refine va_get (ci := 10) (v := .int (gi u4221 7)) (C := RX10) (T := TX10) (N := 42) hx hb hts (fun w h => uc_in w (inX10 w h)) hown hK hH.1 0 (mwc0 C A u4221) rfl 7 (by decide) (hts _ (uc_in _ q_f1195)) (fun _ h9 => h9) rfl dX10_next_190 ?_
              refine pv_i (v := (gi u4194 7)) ((gi_sl eu4221).trans ((gi_ne eu4220 (by decide)).trans ((gi_ne eu4219 (by decide)).trans rfl))) ?_
              refine lv_bipush (v := 48) hx hb dX10_next_193 (by decide) ?_
              refine lv_bipush (v := 57) hx hb dX10_next_195 (by decide) ?_
              refine cvS (n := 3) (As := [.int (gi u4194 7), .int 48, .int 57]) (rest := []) ⟨hx, hb, hml, hown, hts⟩ uc_in (kX10_isByte_3 l D C A u4221 hI (gi u4194 7) (((gi u4194 7)).toInt) rfl (by omega) (by omega)) q_m1374 q_n1376 q_p56 q_i11 q_c1377 hvX10_isByte ⟨(Nat.le_of_ble_eq_true rfl), (Nat.le_of_ble_eq_true rfl)⟩ ⟨(Nat.le_of_ble_eq_true rfl), (Nat.le_of_ble_eq_true rfl)⟩ hK hH.1 10 0 rfl (mwc0 C A u4221) rfl hl.1 rfl (Nat.le_of_ble_eq_true rfl) dX10_next_197 (fun r4914 p4915 => ?_)
              have q4916 := (congrArg Int32.toInt ((gi_sl eu4221).trans ((gi_ne eu4220 (by decide)).trans ((gi_ne eu4219 (by decide)).trans ((hUu4194.1 6 rfl).trans rfl))))).trans rfl
              have q4917 : (ga u4221 5 (Int32.toNatClampNeg (gi u4194 7))).toInt = ((ga u4194 5 (Int32.toNatClampNeg (gi u4194 7)))).toInt := (congrArg Int32.toInt ((congrFun (ga_sl eu4221) _).trans ((congrFun (ga_si eu4220) _).trans ((congrFun (ga_si eu4219) _).trans rfl)))).trans rfl
              rcases p4915 with ⟨e9, f4918, f4919, f4920⟩ | ⟨e9, f4921⟩
              · subst e9
                refine lv_if_eq (tgt := 274) hx hb dX10_next_200 (by decide) (fun c4922 => absurd c4922 (by decide)) (fun c4922 => ?_)
                refine lv_aload_n hx hb dX10_next_203 rfl (lv_at hl 0 rfl) ?_
                refine lv_iconst (v := 2) hx hb dX10_next_204 (by decide) ?_
                refine r_put (j := 8) (ci := 10) (C := RX10) (T := TX10) (N := 42) hx hb hts (fun w h => uc_in w (inX10 w h)) tyX10 tyX10_ok nmX10 hown hK hH 0 (mwc0 C A u4221) rfl 8 (by decide) (hts _ (uc_in _ q_f1196)) (fun _ h9 => h9) rfl (by decide +kernel) (Nat.le_of_ble_eq_true rfl) (mws8 C A u4221 _) dX10_next_205 (fun u4923 eu4923 H locs hH => ?_)
                have hI := hI.pi0 eu4923 rfl
                refine lv_aload_n hx hb dX10_next_208 rfl (lv_at hl 0 rfl) ?_
                refine lv_aload_n hx hb dX10_next_209 rfl (lv_at hl 0 rfl) ?_
                refine va_get (ci := 10) (v := .int (gi u4923 7)) (C := RX10) (T := TX10) (N := 42) hx hb hts (fun w h => uc_in w (inX10 w h)) hown hK hH.1 0 (mwc0 C A u4923) rfl 7 (by decide) (hts _ (uc_in _ q_f1195)) (fun _ h9 => h9) rfl dX10_next_210 ?_
                refine pv_i (v := (gi u4194 7)) ((gi_ne eu4923 (by decide)).trans ((gi_sl eu4221).trans ((gi_ne eu4220 (by decide)).trans ((gi_ne eu4219 (by decide)).trans rfl)))) ?_
                refine lv_bipush (v := 48) hx hb dX10_next_213 (by decide) ?_
                refine lv_bipush (v := 57) hx hb dX10_next_215 (by decide) ?_
                refine cvS (n := 3) (As := [.int (gi u4194 7), .int 48, .int 57]) (rest := []) ⟨hx, hb, hml, hown, hts⟩ uc_in (kX10_isByte_3 l D C A u4923 hI (gi u4194 7) (((gi u4194 7)).toInt) rfl (by omega) (by omega)) q_m1374 q_n1376 q_p56 q_i11 q_c1377 hvX10_isByte ⟨(Nat.le_of_ble_eq_true rfl), (Nat.le_of_ble_eq_true rfl)⟩ ⟨(Nat.le_of_ble_eq_true rfl), (Nat.le_of_ble_eq_true rfl)⟩ hK hH.1 10 0 rfl (mwc0 C A u4923) rfl hl.1 rfl (Nat.le_of_ble_eq_true rfl) dX10_next_217 (fun r4924 p4925 => ?_)
                have q4926 := (congrArg Int32.toInt ((gi_ne eu4923 (by decide)).trans ((gi_sl eu4221).trans ((gi_ne eu4220 (by decide)).trans ((gi_ne eu4219 (by decide)).trans ((hUu4194.1 6 rfl).trans rfl)))))).trans rfl
                have q4927 : (ga u4923 5 (Int32.toNatClampNeg (gi u4194 7))).toInt = ((ga u4194 5 (Int32.toNatClampNeg (gi u4194 7)))).toInt := (congrArg Int32.toInt ((congrFun (ga_si eu4923) _).trans ((congrFun (ga_sl eu4221) _).trans ((congrFun (ga_si eu4220) _).trans ((congrFun (ga_si eu4219) _).trans rfl))))).trans rfl
                rcases p4925 with ⟨e9, f4928, f4929, f4930⟩ | ⟨e9, f4931⟩
                · subst e9
                  refine lv_if_eq (tgt := 307) hx hb dX10_next_220 (by decide) (fun c4932 => absurd c4932 (by decide)) (fun c4932 => ?_)
                  refine lv_aload_n hx hb dX10_next_223 rfl (lv_at hl 0 rfl) ?_
                  refine lv_aload_n hx hb dX10_next_224 rfl (lv_at hl 0 rfl) ?_
                  refine va_get (ci := 10) (v := .int (gi u4923 10)) (C := RX10) (T := TX10) (N := 42) hx hb hts (fun w h => uc_in w (inX10 w h)) hown hK hH.1 0 (mwc0 C A u4923) rfl 10 (by decide) (hts _ (uc_in _ q_f1198)) (fun _ h9 => h9) rfl dX10_next_225 ?_
                  refine pv_i (v := 0) ((gi_ne eu4923 (by decide)).trans ((gi_sl eu4221).trans (gi_si eu4220))) ?_
                  refine lv_ldc (v := 100000) hx hb hown (hts _ (uc_in _ q_k1381)) dX10_next_228 ?_
                  refine lv_icmp_le (tgt := 238) hx hb dX10_next_230 (by decide) (fun c4933 => ?_) (fun c4933 => absurd c4933 (by decide))
                  refine lv_bipush (v := 10) hx hb dX10_next_238 (by decide) ?_
                  refine lv_aload_n hx hb dX10_next_240 rfl (lv_at hl 0 rfl) ?_
                  refine va_get (ci := 10) (v := .int (gi u4923 10)) (C := RX10) (T := TX10) (N := 42) hx hb hts (fun w h => uc_in w (inX10 w h)) hown hK hH.1 0 (mwc0 C A u4923) rfl 10 (by decide) (hts _ (uc_in _ q_f1198)) (fun _ h9 => h9) rfl dX10_next_241 ?_
                  refine pv_i (v := 0) ((gi_ne eu4923 (by decide)).trans ((gi_sl eu4221).trans (gi_si eu4220))) ?_
                  refine lv_imul hx hb dX10_next_244 ?_
                  refine pv_i (v := 0) (by decide) ?_
                  refine lv_aload_n hx hb dX10_next_245 rfl (lv_at hl 0 rfl) ?_
                  refine va_get (ci := 10) (v := .ref (A 5)) (C := RX10) (T := TX10) (N := 42) hx hb hts (fun w h => uc_in w (inX10 w h)) hown hK hH.1 0 (mwc0 C A u4923) rfl 5 (by decide) (hts _ (uc_in _ q_f1193)) (fun _ h9 => h9) rfl dX10_next_246 ?_
                  refine lv_aload_n hx hb dX10_next_249 rfl (lv_at hl 0 rfl) ?_
                  refine va_get (ci := 10) (v := .int (gi u4923 7)) (C := RX10) (T := TX10) (N := 42) hx hb hts (fun w h => uc_in w (inX10 w h)) hown hK hH.1 0 (mwc0 C A u4923) rfl 7 (by decide) (hts _ (uc_in _ q_f1195)) (fun _ h9 => h9) rfl dX10_next_250 ?_
                  refine pv_i (v := (gi u4194 7)) ((gi_ne eu4923 (by decide)).trans ((gi_sl eu4221).trans ((gi_ne eu4220 (by decide)).trans ((gi_ne eu4219 (by decide)).trans rfl)))) ?_
                  refine va_bald hx hb hK hH.1 5 0 (mwc5 C A u4923) rfl (i_ix rfl (by omega) (by omega)) dX10_next_253 ?_
                  refine pv_i (v := (ga u4194 5 (Int32.toNatClampNeg (gi u4194 7)))) ((congrFun (ga_si eu4923) _).trans ((congrFun (ga_sl eu4221) _).trans ((congrFun (ga_si eu4220) _).trans ((congrFun (ga_si eu4219) _).trans rfl)))) ?_
                  refine lv_iadd hx hb dX10_next_254 ?_
                  have b4934 := i_rng (x := (ga u4194 5 (Int32.toNatClampNeg (gi u4194 7)))) (X := ((ga u4194 5 (Int32.toNatClampNeg (gi u4194 7)))).toInt) rfl
                  refine p_nm (tt_add (X := 0) (Y := ((ga u4194 5 (Int32.toNatClampNeg (gi u4194 7)))).toInt) (by decide) rfl (by omega) (by omega)) (fun z4935 hz4935 => ?_)
                  refine lv_bipush (v := 48) hx hb dX10_next_255 (by decide) ?_
                  refine lv_isub hx hb dX10_next_257 ?_
                  refine p_any (fun z4936 => ?_)
                  refine r_put (j := 10) (ci := 10) (C := RX10) (T := TX10) (N := 42) hx hb hts (fun w h => uc_in w (inX10 w h)) tyX10 tyX10_ok nmX10 hown hK hH 0 (mwc0 C A u4923) rfl 10 (by decide) (hts _ (uc_in _ q_f1198)) (fun _ h9 => h9) rfl (by decide +kernel) (Nat.le_of_ble_eq_true rfl) (mws10 C A u4923 _) dX10_next_258 (fun u4937 eu4937 H locs hH => ?_)
                  have hI := hI.pi0 eu4937 rfl
                  refine lv_aload_n hx hb dX10_next_261 rfl (lv_at hl 0 rfl) ?_
                  refine lv_dup hx hb dX10_next_262 rfl ?_
                  refine va_get (ci := 10) (v := .int (gi u4937 7)) (C := RX10) (T := TX10) (N := 42) hx hb hts (fun w h => uc_in w (inX10 w h)) hown hK hH.1 0 (mwc0 C A u4937) rfl 7 (by decide) (hts _ (uc_in _ q_f1195)) (fun _ h9 => h9) rfl dX10_next_263 ?_
                  refine pv_i (v := (gi u4194 7)) ((gi_ne eu4937 (by decide)).trans ((gi_ne eu4923 (by decide)).trans ((gi_sl eu4221).trans ((gi_ne eu4220 (by decide)).trans ((gi_ne eu4219 (by decide)).trans rfl))))) ?_
                  refine lv_iconst (v := 1) hx hb dX10_next_266 (by decide) ?_
                  refine lv_iadd hx hb dX10_next_267 ?_
                  refine p_nm (tt_add (X := ((gi u4194 7)).toInt) (Y := 1) rfl (by decide) (by omega) (by omega)) (fun z4938 hz4938 => ?_)
                  refine r_put (j := 7) (ci := 10) (C := RX10) (T := TX10) (N := 42) hx hb hts (fun w h => uc_in w (inX10 w h)) tyX10 tyX10_ok nmX10 hown hK hH 0 (mwc0 C A u4937) rfl 7 (by decide) (hts _ (uc_in _ q_f1195)) (fun _ h9 => h9) rfl (by decide +kernel) (Nat.le_of_ble_eq_true rfl) (mws7 C A u4937 _) dX10_next_268 (fun u4939 eu4939 H locs hH => ?_)
                  have hI := hI.s7 eu4939 hz4938 (by omega) (by omega)
                  refine lv_goto (tgt := 208) hx hb dX10_next_271 (by decide) ?_
                  have lp208_5031 : ∀ (n208 : Nat) (ls : Array Slot) (u5031 : St) (H : Heap) (locs : List Loc), ((gi u4194 7)).toInt < (gi u5031 7).toInt ∧ (gi u5031 7).toInt ≤ (gi u 6).toInt → 800 - (gi u5031 7).toInt < (n208 : Int) → Un [(7, 7), (10, 10)] [] [] u4939 u5031 → IM u5031 → Hd D (mw C A) (va_A (mw C A u) s.heap.size) s.heap u5031 H locs → lv_has ls 2 [(0, .ref (A 0))] → W p l e (rmL 2 0 0) s m ar below meth c H locs 0 0 Q (F0 m 208 ls []) := by
                    intro n208
                    induction n208 with
                    | zero => intro ls u5031 H locs x208_0 hmun208 hUu5031 hI hH hl; exfalso; have q9 := hI.b7; omega
                    | succ n208 ih208_5031 =>
                      intro ls u5031 H locs x208_0 hmun208 hUu5031 hI hH hl
                      refine lv_aload_n hx hb dX10_next_208 rfl (lv_at hl 0 rfl) ?_
                      refine lv_aload_n hx hb dX10_next_209 rfl (lv_at hl 0 rfl) ?_
                      refine va_get (ci := 10) (v := .int (gi u5031 7)) (C := RX10) (T := TX10) (N := 42) hx hb hts (fun w h => uc_in w (inX10 w h)) hown hK hH.1 0 (mwc0 C A u5031) rfl 7 (by decide) (hts _ (uc_in _ q_f1195)) (fun _ h9 => h9) rfl dX10_next_210 ?_
                      have b5033 := hI.b7
                      refine lv_bipush (v := 48) hx hb dX10_next_213 (by decide) ?_
                      refine lv_bipush (v := 57) hx hb dX10_next_215 (by decide) ?_
                      refine cvS (n := 3) (As := [.int (gi u5031 7), .int 48, .int 57]) (rest := []) ⟨hx, hb, hml, hown, hts⟩ uc_in (kX10_isByte_3 l D C A u5031 hI (gi u5031 7) (((gi u5031 7)).toInt) rfl (by omega) (by omega)) q_m1374 q_n1376 q_p56 q_i11 q_c1377 hvX10_isByte ⟨(Nat.le_of_ble_eq_true rfl), (Nat.le_of_ble_eq_true rfl)⟩ ⟨(Nat.le_of_ble_eq_true rfl), (Nat.le_of_ble_eq_true rfl)⟩ hK hH.1 10 0 rfl (mwc0 C A u5031) rfl hl.1 rfl (Nat.le_of_ble_eq_true rfl) dX10_next_217 (fun r5034 p5035 => ?_)
                      have q5036 := (congrArg Int32.toInt ((hUu5031.1 6 rfl).trans ((gi_ne eu4939 (by decide)).trans ((gi_ne eu4937 (by decide)).trans ((gi_ne eu4923 (by decide)).trans ((gi_sl eu4221).trans ((gi_ne eu4220 (by decide)).trans ((gi_ne eu4219 (by decide)).trans ((hUu4194.1 6 rfl).trans rfl))))))))).trans rfl
                      rcases p5035 with ⟨e9, f5037, f5038, f5039⟩ | ⟨e9, f5040⟩
                      · subst e9
                        refine lv_if_eq (tgt := 307) hx hb dX10_next_220 (by decide) (fun c5041 => absurd c5041 (by decide)) (fun c5041 => ?_)
                        refine lv_aload_n hx hb dX10_next_223 rfl (lv_at hl 0 rfl) ?_
                        refine lv_aload_n hx hb dX10_next_224 rfl (lv_at hl 0 rfl) ?_
                        refine va_get (ci := 10) (v := .int (gi u5031 10)) (C := RX10) (T := TX10) (N := 42) hx hb hts (fun w h => uc_in w (inX10 w h)) hown hK hH.1 0 (mwc0 C A u5031) rfl 10 (by decide) (hts _ (uc_in _ q_f1198)) (fun _ h9 => h9) rfl dX10_next_225 ?_
                        refine lv_ldc (v := 100000) hx hb hown (hts _ (uc_in _ q_k1381)) dX10_next_228 ?_
                        have j258_5050 : ∀ (ls : Array Slot) (y5046d : Int32), lv_has ls 2 [(0, .ref (A 0))] → W p l e (rmL 2 0 0) s m ar below meth c H locs 0 0 Q (F0 m 258 ls [.int y5046d, .ref (A 0)]) := by
                          intro ls y5046d hl
                          refine r_put (j := 10) (ci := 10) (C := RX10) (T := TX10) (N := 42) hx hb hts (fun w h => uc_in w (inX10 w h)) tyX10 tyX10_ok nmX10 hown hK hH 0 (mwc0 C A u5031) rfl 10 (by decide) (hts _ (uc_in _ q_f1198)) (fun _ h9 => h9) rfl (by decide +kernel) (Nat.le_of_ble_eq_true rfl) (mws10 C A u5031 _) dX10_next_258 (fun u5052 eu5052 H locs hH => ?_)
                          have hI := hI.pi0 eu5052 rfl
                          refine lv_aload_n hx hb dX10_next_261 rfl (lv_at hl 0 rfl) ?_
                          refine lv_dup hx hb dX10_next_262 rfl ?_
                          refine va_get (ci := 10) (v := .int (gi u5052 7)) (C := RX10) (T := TX10) (N := 42) hx hb hts (fun w h => uc_in w (inX10 w h)) hown hK hH.1 0 (mwc0 C A u5052) rfl 7 (by decide) (hts _ (uc_in _ q_f1195)) (fun _ h9 => h9) rfl dX10_next_263 ?_
                          refine pv_i (v := (gi u5031 7)) ((gi_ne eu5052 (by decide)).trans rfl) ?_
                          refine lv_iconst (v := 1) hx hb dX10_next_266 (by decide) ?_
                          refine lv_iadd hx hb dX10_next_267 ?_
                          refine p_nm (tt_add (X := ((gi u5031 7)).toInt) (Y := 1) rfl (by decide) (by omega) (by omega)) (fun z5053 hz5053 => ?_)
                          refine r_put (j := 7) (ci := 10) (C := RX10) (T := TX10) (N := 42) hx hb hts (fun w h => uc_in w (inX10 w h)) tyX10 tyX10_ok nmX10 hown hK hH 0 (mwc0 C A u5052) rfl 7 (by decide) (hts _ (uc_in _ q_f1195)) (fun _ h9 => h9) rfl (by decide +kernel) (Nat.le_of_ble_eq_true rfl) (mws7 C A u5052 _) dX10_next_268 (fun u5054 eu5054 H locs hH => ?_)
                          have hI := hI.s7 eu5054 hz5053 (by omega) (by omega)
                          refine lv_goto (tgt := 208) hx hb dX10_next_271 (by decide) ?_
                          exact ih208_5031 ls u5054 _ _ (by have q7 := (show (gi u5054 7).toInt = (((gi u5031 7)).toInt + 1) from (congrArg Int32.toInt (show gi u5054 7 = z5053 from (gi_si eu5054))).trans hz5053); omega) (by have q8 := hI.b7; have q9 : (gi u5054 7).toInt = (((gi u5031 7)).toInt + 1) := (congrArg Int32.toInt (gi_si eu5054)).trans hz5053; omega) (Un.si (Un.si hUu5031 rfl eu5052) rfl eu5054) hI hH hl
                        refine lv_icmp_le (tgt := 238) hx hb dX10_next_230 (by decide) (fun c5042 => ?_) (fun c5042 => ?_)
                        · have c5042 := cLE (x := (gi u5031 10)) (y := 100000) (X := ((gi u5031 10)).toInt) (Y := 100000) rfl (by decide) c5042
                          refine lv_bipush (v := 10) hx hb dX10_next_238 (by decide) ?_
                          refine lv_aload_n hx hb dX10_next_240 rfl (lv_at hl 0 rfl) ?_
                          refine va_get (ci := 10) (v := .int (gi u5031 10)) (C := RX10) (T := TX10) (N := 42) hx hb hts (fun w h => uc_in w (inX10 w h)) hown hK hH.1 0 (mwc0 C A u5031) rfl 10 (by decide) (hts _ (uc_in _ q_f1198)) (fun _ h9 => h9) rfl dX10_next_241 ?_
                          refine lv_imul hx hb dX10_next_244 ?_
                          refine p_any (fun z5055 => ?_)
                          refine lv_aload_n hx hb dX10_next_245 rfl (lv_at hl 0 rfl) ?_
                          refine va_get (ci := 10) (v := .ref (A 5)) (C := RX10) (T := TX10) (N := 42) hx hb hts (fun w h => uc_in w (inX10 w h)) hown hK hH.1 0 (mwc0 C A u5031) rfl 5 (by decide) (hts _ (uc_in _ q_f1193)) (fun _ h9 => h9) rfl dX10_next_246 ?_
                          refine lv_aload_n hx hb dX10_next_249 rfl (lv_at hl 0 rfl) ?_
                          refine va_get (ci := 10) (v := .int (gi u5031 7)) (C := RX10) (T := TX10) (N := 42) hx hb hts (fun w h => uc_in w (inX10 w h)) hown hK hH.1 0 (mwc0 C A u5031) rfl 7 (by decide) (hts _ (uc_in _ q_f1195)) (fun _ h9 => h9) rfl dX10_next_250 ?_
                          refine va_bald hx hb hK hH.1 5 0 (mwc5 C A u5031) rfl (i_ix rfl (by omega) (by omega)) dX10_next_253 ?_
                          refine pv_i (v := (ga u5031 5 (Int32.toNatClampNeg (gi u5031 7)))) rfl ?_
                          refine lv_iadd hx hb dX10_next_254 ?_
                          refine p_any (fun z5056 => ?_)
                          refine lv_bipush (v := 48) hx hb dX10_next_255 (by decide) ?_
                          refine lv_isub hx hb dX10_next_257 ?_
                          refine p_any (fun z5057 => ?_)
                          exact j258_5050 ls z5057 hl
                        · have c5042 := cNLE (x := (gi u5031 10)) (y := 100000) (X := ((gi u5031 10)).toInt) (Y := 100000) rfl (by decide) c5042
                          refine lv_ldc (v := 1000000) hx hb hown (hts _ (uc_in _ q_k1382)) dX10_next_233 ?_
                          refine lv_goto (tgt := 258) hx hb dX10_next_235 (by decide) ?_
                          exact j258_5050 ls 1000000 hl
                      · subst e9
                        refine lv_if_eq (tgt := 307) hx hb dX10_next_220 (by decide) (fun c5058 => ?_) (fun c5058 => absurd c5058 (by decide))
                        exact hret _ _ _ _ _ dX10_next_307 ⟨hI, (Un.tr (Un.si (Un.si (Un.si (Un.sl (Un.si (Un.si (Un.tr Un.rf hUu4194 rfl rfl rfl) rfl eu4219) rfl eu4220) eu4221) rfl eu4923) rfl eu4937) rfl eu4939) hUu5031 rfl rfl rfl), (by have q6 := (show (gi u5031 6).toInt = ((gi u 6)).toInt from (congrArg Int32.toInt (show gi u5031 6 = (gi u 6) from ((hUu5031.1 6 rfl).trans ((gi_ne eu4939 (by decide)).trans ((gi_ne eu4937 (by decide)).trans ((gi_ne eu4923 (by decide)).trans ((gi_sl eu4221).trans ((gi_ne eu4220 (by decide)).trans ((gi_ne eu4219 (by decide)).trans ((hUu4194.1 6 rfl).trans rfl)))))))))).trans rfl); have q7 := (show (gi u5031 7).toInt = ((gi u5031 7)).toInt from (congrArg Int32.toInt (show gi u5031 7 = (gi u5031 7) from rfl)).trans rfl); have q8 := (show (gi u5031 8).toInt = 2 from (congrArg Int32.toInt (show gi u5031 8 = 2 from ((hUu5031.1 8 rfl).trans ((gi_ne eu4939 (by decide)).trans ((gi_ne eu4937 (by decide)).trans (gi_si eu4923)))))).trans (by decide)); have q9 := (show (gi u5031 9).toInt = ((gi u4194 7)).toInt from (congrArg Int32.toInt (show gi u5031 9 = (gi u4194 7) from ((hUu5031.1 9 rfl).trans ((gi_ne eu4939 (by decide)).trans ((gi_ne eu4937 (by decide)).trans ((gi_ne eu4923 (by decide)).trans ((gi_sl eu4221).trans ((gi_ne eu4220 (by decide)).trans (gi_si eu4219))))))))).trans rfl); omega)⟩ hH
                  exact lp208_5031 801 ls u4939 _ _ (by have q7 := (show (gi u4939 7).toInt = (((gi u4194 7)).toInt + 1) from (congrArg Int32.toInt (show gi u4939 7 = z4938 from (gi_si eu4939))).trans hz4938); omega) (by have q8 := hI.b7; have q9 : (gi u4939 7).toInt = (((gi u4194 7)).toInt + 1) := (congrArg Int32.toInt (gi_si eu4939)).trans hz4938; omega) Un.rf hI hH hl
                · exfalso; omega
              · subst e9
                refine lv_if_eq (tgt := 274) hx hb dX10_next_200 (by decide) (fun c5059 => ?_) (fun c5059 => absurd c5059 (by decide))
                refine lv_aload_n hx hb dX10_next_274 rfl (lv_at hl 0 rfl) ?_
                refine lv_aload_n hx hb dX10_next_275 rfl (lv_at hl 0 rfl) ?_
                refine va_get (ci := 10) (v := .ref (A 5)) (C := RX10) (T := TX10) (N := 42) hx hb hts (fun w h => uc_in w (inX10 w h)) hown hK hH.1 0 (mwc0 C A u4221) rfl 5 (by decide) (hts _ (uc_in _ q_f1193)) (fun _ h9 => h9) rfl dX10_next_276 ?_
                refine lv_aload_n hx hb dX10_next_279 rfl (lv_at hl 0 rfl) ?_
                refine va_get (ci := 10) (v := .int (gi u4221 7)) (C := RX10) (T := TX10) (N := 42) hx hb hts (fun w h => uc_in w (inX10 w h)) hown hK hH.1 0 (mwc0 C A u4221) rfl 7 (by decide) (hts _ (uc_in _ q_f1195)) (fun _ h9 => h9) rfl dX10_next_280 ?_
                refine pv_i (v := (gi u4194 7)) ((gi_sl eu4221).trans ((gi_ne eu4220 (by decide)).trans ((gi_ne eu4219 (by decide)).trans rfl))) ?_
                refine va_bald hx hb hK hH.1 5 0 (mwc5 C A u4221) rfl (i_ix rfl (by omega) (by omega)) dX10_next_283 ?_
                refine pv_i (v := (ga u4194 5 (Int32.toNatClampNeg (gi u4194 7)))) ((congrFun (ga_sl eu4221) _).trans ((congrFun (ga_si eu4220) _).trans ((congrFun (ga_si eu4219) _).trans rfl))) ?_
                refine lv_bipush (v := 59) hx hb dX10_next_284 (by decide) ?_
                have j294_5065 : ∀ (ls : Array Slot) (y5061d : Int32), 3 ≤ y5061d.toInt → y5061d.toInt ≤ 4 → lv_has ls 2 [(0, .ref (A 0))] → W p l e (rmL 2 0 0) s m ar below meth c H locs 0 0 Q (F0 m 294 ls [.int y5061d, .ref (A 0)]) := by
                  intro ls y5061d ly5061d my5061d hl
                  refine r_put (j := 8) (ci := 10) (C := RX10) (T := TX10) (N := 42) hx hb hts (fun w h => uc_in w (inX10 w h)) tyX10 tyX10_ok nmX10 hown hK hH 0 (mwc0 C A u4221) rfl 8 (by decide) (hts _ (uc_in _ q_f1196)) (fun _ h9 => h9) rfl (by decide +kernel) (Nat.le_of_ble_eq_true rfl) (mws8 C A u4221 _) dX10_next_294 (fun u5067 eu5067 H locs hH => ?_)
                  have hI := hI.pi0 eu5067 rfl
                  refine lv_aload_n hx hb dX10_next_297 rfl (lv_at hl 0 rfl) ?_
                  refine lv_dup hx hb dX10_next_298 rfl ?_
                  refine va_get (ci := 10) (v := .int (gi u5067 7)) (C := RX10) (T := TX10) (N := 42) hx hb hts (fun w h => uc_in w (inX10 w h)) hown hK hH.1 0 (mwc0 C A u5067) rfl 7 (by decide) (hts _ (uc_in _ q_f1195)) (fun _ h9 => h9) rfl dX10_next_299 ?_
                  refine pv_i (v := (gi u4194 7)) ((gi_ne eu5067 (by decide)).trans ((gi_sl eu4221).trans ((gi_ne eu4220 (by decide)).trans ((gi_ne eu4219 (by decide)).trans rfl)))) ?_
                  refine lv_iconst (v := 1) hx hb dX10_next_302 (by decide) ?_
                  refine lv_iadd hx hb dX10_next_303 ?_
                  refine p_nm (tt_add (X := ((gi u4194 7)).toInt) (Y := 1) rfl (by decide) (by omega) (by omega)) (fun z5068 hz5068 => ?_)
                  refine r_put (j := 7) (ci := 10) (C := RX10) (T := TX10) (N := 42) hx hb hts (fun w h => uc_in w (inX10 w h)) tyX10 tyX10_ok nmX10 hown hK hH 0 (mwc0 C A u5067) rfl 7 (by decide) (hts _ (uc_in _ q_f1195)) (fun _ h9 => h9) rfl (by decide +kernel) (Nat.le_of_ble_eq_true rfl) (mws7 C A u5067 _) dX10_next_304 (fun u5069 eu5069 H locs hH => ?_)
                  have hI := hI.s7 eu5069 hz5068 (by omega) (by omega)
                  exact hret _ _ _ _ _ dX10_next_307 ⟨hI, (Un.si (Un.si (Un.sl (Un.si (Un.si (Un.tr Un.rf hUu4194 rfl rfl rfl) rfl eu4219) rfl eu4220) eu4221) rfl eu5067) rfl eu5069), (by have q6 := (show (gi u5069 6).toInt = ((gi u 6)).toInt from (congrArg Int32.toInt (show gi u5069 6 = (gi u 6) from ((gi_ne eu5069 (by decide)).trans ((gi_ne eu5067 (by decide)).trans ((gi_sl eu4221).trans ((gi_ne eu4220 (by decide)).trans ((gi_ne eu4219 (by decide)).trans ((hUu4194.1 6 rfl).trans rfl)))))))).trans rfl); have q7 := (show (gi u5069 7).toInt = (((gi u4194 7)).toInt + 1) from (congrArg Int32.toInt (show gi u5069 7 = z5068 from (gi_si eu5069))).trans hz5068); have q8 := (show (gi u5069 8).toInt = y5061d.toInt from (congrArg Int32.toInt (show gi u5069 8 = y5061d from ((gi_ne eu5069 (by decide)).trans (gi_si eu5067)))).trans rfl); have q9 := (show (gi u5069 9).toInt = ((gi u4194 7)).toInt from (congrArg Int32.toInt (show gi u5069 9 = (gi u4194 7) from ((gi_ne eu5069 (by decide)).trans ((gi_ne eu5067 (by decide)).trans ((gi_sl eu4221).trans ((gi_ne eu4220 (by decide)).trans (gi_si eu4219))))))).trans rfl); omega)⟩ hH
                refine lv_icmp_ne (tgt := 293) hx hb dX10_next_286 (by decide) (fun c5060 => ?_) (fun c5060 => ?_)
                · have c5060 := cNE (x := (ga u4194 5 (Int32.toNatClampNeg (gi u4194 7)))) (y := 59) (X := ((ga u4194 5 (Int32.toNatClampNeg (gi u4194 7)))).toInt) (Y := 59) rfl (by decide) c5060
                  refine lv_iconst (v := 4) hx hb dX10_next_293 (by decide) ?_
                  exact j294_5065 ls 4 (by decide) (by decide) hl
                · have c5060 := cEQ (x := (ga u4194 5 (Int32.toNatClampNeg (gi u4194 7)))) (y := 59) (X := ((ga u4194 5 (Int32.toNatClampNeg (gi u4194 7)))).toInt) (Y := 59) rfl (by decide) c5060
                  refine lv_iconst (v := 3) hx hb dX10_next_289 (by decide) ?_
                  refine lv_goto (tgt := 294) hx hb dX10_next_290 (by decide) ?_
                  exact j294_5065 ls 3 (by decide) (by decide) hl
          · have c4222 := cEQ (x := (gi u4194 7)) (y := (gi u 6)) (X := ((gi u4194 7)).toInt) (Y := ((gi u 6)).toInt) rfl rfl c4222
            refine lv_aload_n hx hb dX10_next_72 rfl (lv_at hl 0 rfl) ?_
            refine lv_iconst (v := 0) hx hb dX10_next_73 (by decide) ?_
            refine r_put (j := 8) (ci := 10) (C := RX10) (T := TX10) (N := 42) hx hb hts (fun w h => uc_in w (inX10 w h)) tyX10 tyX10_ok nmX10 hown hK hH 0 (mwc0 C A u4221) rfl 8 (by decide) (hts _ (uc_in _ q_f1196)) (fun _ h9 => h9) rfl (by decide +kernel) (Nat.le_of_ble_eq_true rfl) (mws8 C A u4221 _) dX10_next_74 (fun u5070 eu5070 H locs hH => ?_)
            have hI := hI.pi0 eu5070 rfl
            refine lv_goto (tgt := 307) hx hb dX10_next_77 (by decide) ?_
            exact hret _ _ _ _ _ dX10_next_307 ⟨hI, (Un.si (Un.sl (Un.si (Un.si (Un.tr Un.rf hUu4194 rfl rfl rfl) rfl eu4219) rfl eu4220) eu4221) rfl eu5070), (by have q6 := (show (gi u5070 6).toInt = ((gi u 6)).toInt from (congrArg Int32.toInt (show gi u5070 6 = (gi u 6) from ((gi_ne eu5070 (by decide)).trans ((gi_sl eu4221).trans ((gi_ne eu4220 (by decide)).trans ((gi_ne eu4219 (by decide)).trans ((hUu4194.1 6 rfl).trans rfl))))))).trans rfl); have q7 := (show (gi u5070 7).toInt = ((gi u4194 7)).toInt from (congrArg Int32.toInt (show gi u5070 7 = (gi u4194 7) from ((gi_ne eu5070 (by decide)).trans ((gi_sl eu4221).trans ((gi_ne eu4220 (by decide)).trans ((gi_ne eu4219 (by decide)).trans rfl)))))).trans rfl); have q8 := (show (gi u5070 8).toInt = 0 from (congrArg Int32.toInt (show gi u5070 8 = 0 from (gi_si eu5070))).trans (by decide)); have q9 := (show (gi u5070 9).toInt = ((gi u4194 7)).toInt from (congrArg Int32.toInt (show gi u5070 9 = (gi u4194 7) from ((gi_ne eu5070 (by decide)).trans ((gi_sl eu4221).trans ((gi_ne eu4220 (by decide)).trans (gi_si eu4219)))))).trans rfl); omega)⟩ hH
  exact lp0_4194 801 ls u _ _ (by have q7 := (show (gi u 7).toInt = ((gi u 7)).toInt from (congrArg Int32.toInt (show gi u 7 = (gi u 7) from rfl)).trans rfl); omega) (by have q8 := hI.b7; omega) Un.rf hI hH hl
set_option maxHeartbeats 4000000 in
set_option maxRecDepth 100000 in
theorem kX10_begins_0 (l : Launch) (D : va_G) (C : Nat → ClassId) (A : Nat → Nat) (u : St) (hI : IM u) (hT0 : 0 ≤ (gi u 6).toInt) (sz : Nat) : MetV l yX10_begins cX10_begins 1 3 [.ref (A 0)] D (tyl C) (mw C A) X0 u sz (fun u' => IM u' ∧ Un [(7, 7), (8, 8), (9, 9), (10, 10), (12, 12), (13, 13)] [] [] u u' ∧ ((gi u' 9).toInt ≤ (gi u' 7).toInt ∧ (gi u' 7).toInt ≤ (gi u 6).toInt ∧ ((gi u' 8).toInt = 0 ∨ (gi u' 9).toInt < (gi u' 7).toInt)) ∧ 0 ≤ (gi u' 9).toInt) := by
  refine mV (by decide) (Nat.le_of_ble_eq_true rfl) ?_
  intro p e s m below meth c ls ar Q hx hb hml hown hts hK hH hX hl hret
  have hown : s.vm.findClass RX10 = some m.cls := hown
  have hl : lv_has ls 1 [(0, .ref (A 0))] := hl
  refine lv_aload_n hx hb dX10_begins_0 rfl (lv_at hl 0 rfl) ?_
  refine lv_iconst (v := 0) hx hb dX10_begins_1 (by decide) ?_
  refine r_put (j := 12) (ci := 10) (C := RX10) (T := TX10) (N := 42) hx hb hts (fun w h => uc_in w (inX10 w h)) tyX10 tyX10_ok nmX10 hown hK hH 0 (mwc0 C A u) rfl 12 (by decide) (hts _ (uc_in _ q_f1200)) (fun _ h9 => h9) rfl (by decide +kernel) (Nat.le_of_ble_eq_true rfl) (mws12 C A u _) dX10_begins_2 (fun u1 eu1 H locs hH => ?_)
  have hI := hI.pi0 eu1 rfl
  refine lv_aload_n hx hb dX10_begins_5 rfl (lv_at hl 0 rfl) ?_
  refine lv_iconst (v := (-1)) hx hb dX10_begins_6 (by decide) ?_
  refine r_put (j := 13) (ci := 10) (C := RX10) (T := TX10) (N := 42) hx hb hts (fun w h => uc_in w (inX10 w h)) tyX10 tyX10_ok nmX10 hown hK hH 0 (mwc0 C A u1) rfl 13 (by decide) (hts _ (uc_in _ q_f1201)) (fun _ h9 => h9) rfl (by decide +kernel) (Nat.le_of_ble_eq_true rfl) (mws13 C A u1 _) dX10_begins_7 (fun u2 eu2 H locs hH => ?_)
  have hI := hI.pi0 eu2 rfl
  refine lv_aload_n hx hb dX10_begins_10 rfl (lv_at hl 0 rfl) ?_
  refine lv_iconst (v := 0) hx hb dX10_begins_11 (by decide) ?_
  refine r_put (j := 7) (ci := 10) (C := RX10) (T := TX10) (N := 42) hx hb hts (fun w h => uc_in w (inX10 w h)) tyX10 tyX10_ok nmX10 hown hK hH 0 (mwc0 C A u2) rfl 7 (by decide) (hts _ (uc_in _ q_f1195)) (fun _ h9 => h9) rfl (by decide +kernel) (Nat.le_of_ble_eq_true rfl) (mws7 C A u2 _) dX10_begins_12 (fun u3 eu3 H locs hH => ?_)
  have hI := hI.s7 eu3 (X := 0) (by decide) (by decide) (by decide)
  refine lv_aload_n hx hb dX10_begins_15 rfl (lv_at hl 0 rfl) ?_
  have q4 := (show (gi u3 6).toInt = ((gi u 6)).toInt from (congrArg Int32.toInt (show gi u3 6 = (gi u 6) from ((gi_ne eu3 (by decide)).trans ((gi_ne eu2 (by decide)).trans ((gi_ne eu1 (by decide)).trans rfl))))).trans rfl)
  have q5 := (show (gi u3 7).toInt = 0 from (congrArg Int32.toInt (show gi u3 7 = 0 from (gi_si eu3))).trans (by decide))
  have q6 := (show (gi u3 12).toInt = 0 from (congrArg Int32.toInt (show gi u3 12 = 0 from ((gi_ne eu3 (by decide)).trans ((gi_ne eu2 (by decide)).trans (gi_si eu1))))).trans (by decide))
  refine cvU (n := 0) (As := []) (rest := []) ⟨hx, hb, hml, hown, hts⟩ uc_in (kX10_next_0 l D C A u3 hI (by have q5 := hI.b6; omega) _) q_m1370 q_n1372 q_p55 q_i11 q_c1373 hvX10_next ⟨(Nat.le_of_ble_eq_true rfl), (Nat.le_of_ble_eq_true rfl)⟩ ⟨(Nat.le_of_ble_eq_true rfl), (Nat.le_of_ble_eq_true rfl)⟩ hK hH (fun q h => Or.inr h) Bl0 (fun _ _ _ => trivial) 10 0 rfl (mwc0 C A u3) rfl hl.1 rfl (Nat.le_of_ble_eq_true rfl) dX10_begins_16 (fun u7 H locs p9 hH => ?_)
  obtain ⟨hI, hUu7, p9⟩ := p9
  exact hret _ _ _ _ _ dX10_begins_19 ⟨hI, (Un.tr (Un.si (Un.si (Un.si Un.rf rfl eu1) rfl eu2) rfl eu3) hUu7 rfl rfl rfl), (by have q6 := (show (gi u7 6).toInt = ((gi u 6)).toInt from (congrArg Int32.toInt (show gi u7 6 = (gi u 6) from ((hUu7.1 6 rfl).trans ((gi_ne eu3 (by decide)).trans ((gi_ne eu2 (by decide)).trans ((gi_ne eu1 (by decide)).trans rfl)))))).trans rfl); have q7 := (show (gi u7 7).toInt = ((gi u7 7)).toInt from (congrArg Int32.toInt (show gi u7 7 = (gi u7 7) from rfl)).trans rfl); have q8 := (show (gi u7 8).toInt = ((gi u7 8)).toInt from (congrArg Int32.toInt (show gi u7 8 = (gi u7 8) from rfl)).trans rfl); have q9 := (show (gi u7 9).toInt = ((gi u7 9)).toInt from (congrArg Int32.toInt (show gi u7 9 = (gi u7 9) from rfl)).trans rfl); have q12 := (show (gi u7 12).toInt = 0 from (congrArg Int32.toInt (show gi u7 12 = 0 from ((hUu7.1 12 rfl).trans ((gi_ne eu3 (by decide)).trans ((gi_ne eu2 (by decide)).trans (gi_si eu1)))))).trans (by decide)); omega)⟩ hH
set_option maxHeartbeats 4000000 in
set_option maxRecDepth 100000 in
theorem kX10_isGood_0 (l : Launch) (D : va_G) (C : Nat → ClassId) (A : Nat → Nat) (u : St) (hI : IM u) : Met l yX10_isGood (uc yX10_isGood cX10_isGood 1 (some .boolean)) (rmL 1 0 0) (va_Pc [.ref (A 0)] (PreR D (tyl C) (mw C A u))) (vp_Si (fun r => (r = 1 ∧ (gi u 12).toInt = 0) ∨ (r = 0 ∧ (gi u 12).toInt ≠ 0))) 0 0 (fun _ => False) := by
  refine mS (by decide) (Nat.le_of_ble_eq_true rfl) ?_
  intro p e s m below meth c ls ar Q hx hb hml hown hts hK hP hl hret
  have hown : s.vm.findClass RX10 = some m.cls := hown
  have hl : lv_has ls 1 [(0, .ref (A 0))] := hl
  refine lv_aload_n hx hb dX10_isGood_0 rfl (lv_at hl 0 rfl) ?_
  refine va_get (ci := 10) (v := .int (gi u 12)) (C := RX10) (T := TX10) (N := 42) hx hb hts (fun w h => uc_in w (inX10 w h)) hown hK hP 0 (mwc0 C A u) rfl 12 (by decide) (hts _ (uc_in _ q_f1200)) (fun _ h9 => h9) rfl dX10_isGood_1 ?_
  refine lv_if_ne (tgt := 11) hx hb dX10_isGood_4 (by decide) (fun c1 => ?_) (fun c1 => ?_)
  · have c1 := cNE (x := (gi u 12)) (y := 0) (X := ((gi u 12)).toInt) (Y := 0) rfl (by decide) c1
    refine lv_iconst (v := 0) hx hb dX10_isGood_11 (by decide) ?_
    exact hret _ _ (0 : Int32) dX10_isGood_12 rfl (Or.inr ⟨rfl, by omega⟩)
  · have c1 := cEQ (x := (gi u 12)) (y := 0) (X := ((gi u 12)).toInt) (Y := 0) rfl (by decide) c1
    refine lv_iconst (v := 1) hx hb dX10_isGood_7 (by decide) ?_
    refine lv_goto (tgt := 12) hx hb dX10_isGood_8 (by decide) ?_
    exact hret _ _ (1 : Int32) dX10_isGood_12 rfl (Or.inl ⟨rfl, by omega⟩)
set_option maxHeartbeats 4000000 in
set_option maxRecDepth 100000 in
theorem kX10_isOver_0 (l : Launch) (D : va_G) (C : Nat → ClassId) (A : Nat → Nat) (u : St) (hI : IM u) (sz : Nat) : MetV l yX10_isOver cX10_isOver 1 1 [.ref (A 0)] D (tyl C) (mw C A) X0 u sz (fun u' => IM u' ∧ Un [(6, 6), (14, 14), (15, 15)] [] [] u u' ∧ True) := by
  refine mV (by decide) (Nat.le_of_ble_eq_true rfl) ?_
  intro p e s m below meth c ls ar Q hx hb hml hown hts hK hH hX hl hret
  have hown : s.vm.findClass RX10 = some m.cls := hown
  have hl : lv_has ls 1 [(0, .ref (A 0))] := hl
  refine lv_aload_n hx hb dX10_isOver_0 rfl (lv_at hl 0 rfl) ?_
  refine lv_iconst (v := 0) hx hb dX10_isOver_1 (by decide) ?_
  refine r_put (j := 6) (ci := 10) (C := RX10) (T := TX10) (N := 42) hx hb hts (fun w h => uc_in w (inX10 w h)) tyX10 tyX10_ok nmX10 hown hK hH 0 (mwc0 C A u) rfl 6 (by decide) (hts _ (uc_in _ q_f1194)) (fun _ h9 => h9) rfl (by decide +kernel) (Nat.le_of_ble_eq_true rfl) (mws6 C A u _) dX10_isOver_2 (fun u1 eu1 H locs hH => ?_)
  have hI := hI.s6 eu1 (X := 0) (by decide) (by decide) (by decide)
  refine lv_aload_n hx hb dX10_isOver_5 rfl (lv_at hl 0 rfl) ?_
  refine lv_aload_n hx hb dX10_isOver_6 rfl (lv_at hl 0 rfl) ?_
  refine va_get (ci := 10) (v := .int (gi u1 12)) (C := RX10) (T := TX10) (N := 42) hx hb hts (fun w h => uc_in w (inX10 w h)) hown hK hH.1 0 (mwc0 C A u1) rfl 12 (by decide) (hts _ (uc_in _ q_f1200)) (fun _ h9 => h9) rfl dX10_isOver_7 ?_
  refine r_put (j := 14) (ci := 10) (C := RX10) (T := TX10) (N := 42) hx hb hts (fun w h => uc_in w (inX10 w h)) tyX10 tyX10_ok nmX10 hown hK hH 0 (mwc0 C A u1) rfl 14 (by decide) (hts _ (uc_in _ q_f1202)) (fun _ h9 => h9) rfl (by decide +kernel) (Nat.le_of_ble_eq_true rfl) (mws14 C A u1 _) dX10_isOver_10 (fun u2 eu2 H locs hH => ?_)
  have hI := hI.pi0 eu2 rfl
  refine lv_aload_n hx hb dX10_isOver_13 rfl (lv_at hl 0 rfl) ?_
  refine lv_aload_n hx hb dX10_isOver_14 rfl (lv_at hl 0 rfl) ?_
  refine va_get (ci := 10) (v := .int (gi u2 12)) (C := RX10) (T := TX10) (N := 42) hx hb hts (fun w h => uc_in w (inX10 w h)) hown hK hH.1 0 (mwc0 C A u2) rfl 12 (by decide) (hts _ (uc_in _ q_f1200)) (fun _ h9 => h9) rfl dX10_isOver_15 ?_
  refine pv_i (v := (gi u1 12)) ((gi_ne eu2 (by decide)).trans rfl) ?_
  refine lv_if_ne (tgt := 25) hx hb dX10_isOver_18 (by decide) (fun c3 => ?_) (fun c3 => ?_)
  · refine lv_aload_n hx hb dX10_isOver_25 rfl (lv_at hl 0 rfl) ?_
    refine va_get (ci := 10) (v := .int (gi u2 13)) (C := RX10) (T := TX10) (N := 42) hx hb hts (fun w h => uc_in w (inX10 w h)) hown hK hH.1 0 (mwc0 C A u2) rfl 13 (by decide) (hts _ (uc_in _ q_f1201)) (fun _ h9 => h9) rfl dX10_isOver_26 ?_
    refine r_put (j := 15) (ci := 10) (C := RX10) (T := TX10) (N := 42) hx hb hts (fun w h => uc_in w (inX10 w h)) tyX10 tyX10_ok nmX10 hown hK hH 0 (mwc0 C A u2) rfl 15 (by decide) (hts _ (uc_in _ q_f1203)) (fun _ h9 => h9) rfl (by decide +kernel) (Nat.le_of_ble_eq_true rfl) (mws15 C A u2 _) dX10_isOver_29 (fun u4 eu4 H locs hH => ?_)
    have hI := hI.pi0 eu4 rfl
    exact hret _ _ _ _ _ dX10_isOver_32 ⟨hI, (Un.si (Un.si (Un.si Un.rf rfl eu1) rfl eu2) rfl eu4), trivial⟩ hH
  · have c3 := cEQ (x := (gi u1 12)) (y := 0) (X := ((gi u1 12)).toInt) (Y := 0) rfl (by decide) c3
    refine lv_iconst (v := (-1)) hx hb dX10_isOver_21 (by decide) ?_
    refine lv_goto (tgt := 29) hx hb dX10_isOver_22 (by decide) ?_
    refine r_put (j := 15) (ci := 10) (C := RX10) (T := TX10) (N := 42) hx hb hts (fun w h => uc_in w (inX10 w h)) tyX10 tyX10_ok nmX10 hown hK hH 0 (mwc0 C A u2) rfl 15 (by decide) (hts _ (uc_in _ q_f1203)) (fun _ h9 => h9) rfl (by decide +kernel) (Nat.le_of_ble_eq_true rfl) (mws15 C A u2 _) dX10_isOver_29 (fun u5 eu5 H locs hH => ?_)
    have hI := hI.pi0 eu5 rfl
    exact hret _ _ _ _ _ dX10_isOver_32 ⟨hI, (Un.si (Un.si (Un.si Un.rf rfl eu1) rfl eu2) rfl eu5), trivial⟩ hH
set_option maxHeartbeats 4000000 in
set_option maxRecDepth 100000 in
theorem kX10_copyRow_30 (l : Launch) (D : va_G) (C : Nat → ClassId) (A : Nat → Nat) (u : St) (hI : IM u) (sz : Nat) : MetV l yX10_copyRow cX10_copyRow 5 1 [.ref (A 6), .int 1, .int 4, .int 0] D (tyl C) (mw C A) X0 u sz (fun u' => IM u' ∧ Un [] [(6, 6)] [] u u' ∧ True) := by
  refine mV (by decide) (Nat.le_of_ble_eq_true rfl) ?_
  intro p e s m below meth c ls ar Q hx hb hml hown hts hK hH hX hl hret
  have hown : s.vm.findClass RX10 = some m.cls := hown
  have hl : lv_has ls 5 [(0, .ref (A 6)), (1, .int 1), (2, .int 4), (3, .int 0)] := hl
  refine lv_iconst (v := 0) hx hb dX10_copyRow_0 (by decide) ?_
  refine lv_istore (lv' := [(4, .int 0), (0, .ref (A 6)), (1, .int 1), (2, .int 4), (3, .int 0)]) hx hb dX10_copyRow_1 hl (by decide) rfl (fun ls hl => ?_)
  have lp3_19 : ∀ (n3 : Nat) (ls : Array Slot) (y18d : Int32) (u19 : St) (H : Heap) (locs : List Loc), 0 ≤ y18d.toInt → y18d.toInt ≤ 1 → 1 - y18d.toInt < (n3 : Int) → Un [] [(6, 6)] [] u u19 → IM u19 → Hd D (mw C A) (va_A (mw C A u) s.heap.size) s.heap u19 H locs → lv_has ls 5 [(4, .int y18d), (0, .ref (A 6)), (1, .int 1), (2, .int 4), (3, .int 0)] → W p l e (rmL 1 0 0) s m ar below meth c H locs 0 0 Q (F0 m 3 ls []) := by
    intro n3
    induction n3 with
    | zero => intro ls y18d u19 H locs ly18d my18d hmun3 hUu19 hI hH hl; exfalso; omega
    | succ n3 ih3_19 =>
      intro ls y18d u19 H locs ly18d my18d hmun3 hUu19 hI hH hl
      refine lv_iload hx hb dX10_copyRow_3 (lv_at hl 0 rfl) ?_
      refine lv_iload_n hx hb dX10_copyRow_5 rfl (lv_at hl 2 rfl) ?_
      refine lv_icmp_ge (tgt := 31) hx hb dX10_copyRow_6 (by decide) (fun c21 => ?_) (fun c21 => ?_)
      · have c21 := cLE (x := 1) (y := y18d) (X := 1) (Y := y18d.toInt) (by decide) rfl c21
        exact hret _ _ _ _ _ dX10_copyRow_31 ⟨hI, (Un.tr Un.rf hUu19 rfl rfl rfl), trivial⟩ hH
      · have c21 := cNLE (x := 1) (y := y18d) (X := 1) (Y := y18d.toInt) (by decide) rfl c21
        refine lv_aload_n hx hb dX10_copyRow_9 rfl (lv_at hl 1 rfl) ?_
        refine lv_iload_n hx hb dX10_copyRow_10 rfl (lv_at hl 2 rfl) ?_
        refine lv_iload_n hx hb dX10_copyRow_11 rfl (lv_at hl 4 rfl) ?_
        refine lv_imul hx hb dX10_copyRow_12 ?_
        refine pv_i (v := 0) (by decide) ?_
        refine lv_iload hx hb dX10_copyRow_13 (lv_at hl 0 rfl) ?_
        refine lv_iadd hx hb dX10_copyRow_15 ?_
        refine p_nm (tt_add (X := 0) (Y := y18d.toInt) (by decide) rfl (by omega) (by omega)) (fun z22 hz22 => ?_)
        refine lv_aload_n hx hb dX10_copyRow_16 rfl (lv_at hl 1 rfl) ?_
        refine lv_iload_n hx hb dX10_copyRow_17 rfl (lv_at hl 2 rfl) ?_
        refine lv_iload_n hx hb dX10_copyRow_18 rfl (lv_at hl 3 rfl) ?_
        refine lv_imul hx hb dX10_copyRow_19 ?_
        refine pv_i (v := 4) (by decide) ?_
        refine lv_iload hx hb dX10_copyRow_20 (lv_at hl 0 rfl) ?_
        refine lv_iadd hx hb dX10_copyRow_22 ?_
        refine p_nm (tt_add (X := 4) (Y := y18d.toInt) (by decide) rfl (by omega) (by omega)) (fun z23 hz23 => ?_)
        refine va_iald hx hb hK hH.1 6 1 (mwc6 C A u19) rfl (i_ix hz23 (by omega) (by omega)) dX10_copyRow_23 ?_
        refine p_any (fun z24 => ?_)
        refine r_iast (j := 6) hx hb hK hH 6 1 (mwc6 C A u19) rfl (i_ix hz22 (by omega) (by omega)) (mwa6 C A u19) dX10_copyRow_24 (fun u25 eu25 H locs hH => ?_)
        have hI := hI.pa0 eu25 (by decide) (by decide) (by decide)
        obtain ⟨z26, ez26⟩ : ∃ z, z = y18d + Int32.ofInt 1 := ⟨_, rfl⟩
        have hz26 : z26.toInt = y18d.toInt + 1 := by rw [ez26]; exact tt_add rfl (by decide) (by omega) (by omega)
        refine lv_iinc (v := z26) (lv' := [(4, .int z26), (0, .ref (A 6)), (1, .int 1), (2, .int 4), (3, .int 0)]) hx hb dX10_copyRow_25 hl (k := 0) rfl ez26.symm (by decide) rfl (fun ls hl => ?_)
        refine lv_goto (tgt := 3) hx hb dX10_copyRow_28 (by decide) ?_
        exact ih3_19 ls z26 u25 _ _ (by have q9 := (show z26.toInt = (y18d.toInt + 1) from hz26); omega) (by have q9 := (show z26.toInt = (y18d.toInt + 1) from hz26); omega) (by have q9 := (show z26.toInt = (y18d.toInt + 1) from hz26); omega) (Un.sa hUu19 rfl eu25) hI hH hl
  exact lp3_19 2 ls 0 u _ _ (by decide) (by decide) (by have q9 : (0 : Int32).toInt = 0 := (by decide); omega) Un.rf hI hH hl
set_option maxHeartbeats 4000000 in
set_option maxRecDepth 100000 in
theorem kX10_copyRow_31 (l : Launch) (D : va_G) (C : Nat → ClassId) (A : Nat → Nat) (u : St) (hI : IM u) (sz : Nat) : MetV l yX10_copyRow cX10_copyRow 5 1 [.ref (A 7), .int 6, .int 4, .int 0] D (tyl C) (mw C A) X0 u sz (fun u' => IM u' ∧ Un [] [(7, 7)] [] u u' ∧ True) := by
  refine mV (by decide) (Nat.le_of_ble_eq_true rfl) ?_
  intro p e s m below meth c ls ar Q hx hb hml hown hts hK hH hX hl hret
  have hown : s.vm.findClass RX10 = some m.cls := hown
  have hl : lv_has ls 5 [(0, .ref (A 7)), (1, .int 6), (2, .int 4), (3, .int 0)] := hl
  refine lv_iconst (v := 0) hx hb dX10_copyRow_0 (by decide) ?_
  refine lv_istore (lv' := [(4, .int 0), (0, .ref (A 7)), (1, .int 6), (2, .int 4), (3, .int 0)]) hx hb dX10_copyRow_1 hl (by decide) rfl (fun ls hl => ?_)
  have lp3_46 : ∀ (n3 : Nat) (ls : Array Slot) (y45d : Int32) (u46 : St) (H : Heap) (locs : List Loc), 0 ≤ y45d.toInt → y45d.toInt ≤ 6 → 6 - y45d.toInt < (n3 : Int) → Un [] [(7, 7)] [] u u46 → IM u46 → Hd D (mw C A) (va_A (mw C A u) s.heap.size) s.heap u46 H locs → lv_has ls 5 [(4, .int y45d), (0, .ref (A 7)), (1, .int 6), (2, .int 4), (3, .int 0)] → W p l e (rmL 1 0 0) s m ar below meth c H locs 0 0 Q (F0 m 3 ls []) := by
    intro n3
    induction n3 with
    | zero => intro ls y45d u46 H locs ly45d my45d hmun3 hUu46 hI hH hl; exfalso; omega
    | succ n3 ih3_46 =>
      intro ls y45d u46 H locs ly45d my45d hmun3 hUu46 hI hH hl
      refine lv_iload hx hb dX10_copyRow_3 (lv_at hl 0 rfl) ?_
      refine lv_iload_n hx hb dX10_copyRow_5 rfl (lv_at hl 2 rfl) ?_
      refine lv_icmp_ge (tgt := 31) hx hb dX10_copyRow_6 (by decide) (fun c48 => ?_) (fun c48 => ?_)
      · have c48 := cLE (x := 6) (y := y45d) (X := 6) (Y := y45d.toInt) (by decide) rfl c48
        exact hret _ _ _ _ _ dX10_copyRow_31 ⟨hI, (Un.tr Un.rf hUu46 rfl rfl rfl), trivial⟩ hH
      · have c48 := cNLE (x := 6) (y := y45d) (X := 6) (Y := y45d.toInt) (by decide) rfl c48
        refine lv_aload_n hx hb dX10_copyRow_9 rfl (lv_at hl 1 rfl) ?_
        refine lv_iload_n hx hb dX10_copyRow_10 rfl (lv_at hl 2 rfl) ?_
        refine lv_iload_n hx hb dX10_copyRow_11 rfl (lv_at hl 4 rfl) ?_
        refine lv_imul hx hb dX10_copyRow_12 ?_
        refine pv_i (v := 0) (by decide) ?_
        refine lv_iload hx hb dX10_copyRow_13 (lv_at hl 0 rfl) ?_
        refine lv_iadd hx hb dX10_copyRow_15 ?_
        refine p_nm (tt_add (X := 0) (Y := y45d.toInt) (by decide) rfl (by omega) (by omega)) (fun z49 hz49 => ?_)
        refine lv_aload_n hx hb dX10_copyRow_16 rfl (lv_at hl 1 rfl) ?_
        refine lv_iload_n hx hb dX10_copyRow_17 rfl (lv_at hl 2 rfl) ?_
        refine lv_iload_n hx hb dX10_copyRow_18 rfl (lv_at hl 3 rfl) ?_
        refine lv_imul hx hb dX10_copyRow_19 ?_
        refine pv_i (v := 24) (by decide) ?_
        refine lv_iload hx hb dX10_copyRow_20 (lv_at hl 0 rfl) ?_
        refine lv_iadd hx hb dX10_copyRow_22 ?_
        refine p_nm (tt_add (X := 24) (Y := y45d.toInt) (by decide) rfl (by omega) (by omega)) (fun z50 hz50 => ?_)
        refine va_iald hx hb hK hH.1 7 1 (mwc7 C A u46) rfl (i_ix hz50 (by omega) (by omega)) dX10_copyRow_23 ?_
        refine p_bd (P := fun q => 0 ≤ q ∧ q ≤ hB (Int32.toNatClampNeg z50 % 6)) (hI.has _) (fun z51 bz51 => ?_)
        have bz51 : 0 ≤ z51.toInt ∧ z51.toInt ≤ hB (Int32.toNatClampNeg z50 % 6) := bz51
        refine r_iast (j := 7) hx hb hK hH 7 1 (mwc7 C A u46) rfl (i_ix hz49 (by omega) (by omega)) (mwa7 C A u46) dX10_copyRow_24 (fun u52 eu52 H locs hH => ?_)
        have hI := hI.pah eu52 rfl (by omega) (by have q1 := i_cl (x := z49) (X := (0 + y45d.toInt)) hz49 (by omega); have q2 := i_cl (x := z50) (X := (24 + y45d.toInt)) hz50 (by omega); have q3 : Int32.toNatClampNeg z49 % 6 = Int32.toNatClampNeg z50 % 6 := (by omega); rw [q3]; exact bz51.2)
        obtain ⟨z53, ez53⟩ : ∃ z, z = y45d + Int32.ofInt 1 := ⟨_, rfl⟩
        have hz53 : z53.toInt = y45d.toInt + 1 := by rw [ez53]; exact tt_add rfl (by decide) (by omega) (by omega)
        refine lv_iinc (v := z53) (lv' := [(4, .int z53), (0, .ref (A 7)), (1, .int 6), (2, .int 4), (3, .int 0)]) hx hb dX10_copyRow_25 hl (k := 0) rfl ez53.symm (by decide) rfl (fun ls hl => ?_)
        refine lv_goto (tgt := 3) hx hb dX10_copyRow_28 (by decide) ?_
        exact ih3_46 ls z53 u52 _ _ (by have q9 := (show z53.toInt = (y45d.toInt + 1) from hz53); omega) (by have q9 := (show z53.toInt = (y45d.toInt + 1) from hz53); omega) (by have q9 := (show z53.toInt = (y45d.toInt + 1) from hz53); omega) (Un.sa hUu46 rfl eu52) hI hH hl
  exact lp3_46 7 ls 0 u _ _ (by decide) (by decide) (by have q9 : (0 : Int32).toInt = 0 := (by decide); omega) Un.rf hI hH hl
set_option maxHeartbeats 4000000 in
set_option maxRecDepth 100000 in
theorem kX10_copyRow_32 (l : Launch) (D : va_G) (C : Nat → ClassId) (A : Nat → Nat) (u : St) (hI : IM u) (sz : Nat) : MetV l yX10_copyRow cX10_copyRow 5 1 [.ref (A 8), .int 30, .int 4, .int 0] D (tyl C) (mw C A) X0 u sz (fun u' => IM u' ∧ Un [] [(8, 8)] [] u u' ∧ True) := by
  refine mV (by decide) (Nat.le_of_ble_eq_true rfl) ?_
  intro p e s m below meth c ls ar Q hx hb hml hown hts hK hH hX hl hret
  have hown : s.vm.findClass RX10 = some m.cls := hown
  have hl : lv_has ls 5 [(0, .ref (A 8)), (1, .int 30), (2, .int 4), (3, .int 0)] := hl
  refine lv_iconst (v := 0) hx hb dX10_copyRow_0 (by decide) ?_
  refine lv_istore (lv' := [(4, .int 0), (0, .ref (A 8)), (1, .int 30), (2, .int 4), (3, .int 0)]) hx hb dX10_copyRow_1 hl (by decide) rfl (fun ls hl => ?_)
  have lp3_64 : ∀ (n3 : Nat) (ls : Array Slot) (y63d : Int32) (u64 : St) (H : Heap) (locs : List Loc), 0 ≤ y63d.toInt → y63d.toInt ≤ 30 → 30 - y63d.toInt < (n3 : Int) → Un [] [(8, 8)] [] u u64 → IM u64 → Hd D (mw C A) (va_A (mw C A u) s.heap.size) s.heap u64 H locs → lv_has ls 5 [(4, .int y63d), (0, .ref (A 8)), (1, .int 30), (2, .int 4), (3, .int 0)] → W p l e (rmL 1 0 0) s m ar below meth c H locs 0 0 Q (F0 m 3 ls []) := by
    intro n3
    induction n3 with
    | zero => intro ls y63d u64 H locs ly63d my63d hmun3 hUu64 hI hH hl; exfalso; omega
    | succ n3 ih3_64 =>
      intro ls y63d u64 H locs ly63d my63d hmun3 hUu64 hI hH hl
      refine lv_iload hx hb dX10_copyRow_3 (lv_at hl 0 rfl) ?_
      refine lv_iload_n hx hb dX10_copyRow_5 rfl (lv_at hl 2 rfl) ?_
      refine lv_icmp_ge (tgt := 31) hx hb dX10_copyRow_6 (by decide) (fun c66 => ?_) (fun c66 => ?_)
      · have c66 := cLE (x := 30) (y := y63d) (X := 30) (Y := y63d.toInt) (by decide) rfl c66
        exact hret _ _ _ _ _ dX10_copyRow_31 ⟨hI, (Un.tr Un.rf hUu64 rfl rfl rfl), trivial⟩ hH
      · have c66 := cNLE (x := 30) (y := y63d) (X := 30) (Y := y63d.toInt) (by decide) rfl c66
        refine lv_aload_n hx hb dX10_copyRow_9 rfl (lv_at hl 1 rfl) ?_
        refine lv_iload_n hx hb dX10_copyRow_10 rfl (lv_at hl 2 rfl) ?_
        refine lv_iload_n hx hb dX10_copyRow_11 rfl (lv_at hl 4 rfl) ?_
        refine lv_imul hx hb dX10_copyRow_12 ?_
        refine pv_i (v := 0) (by decide) ?_
        refine lv_iload hx hb dX10_copyRow_13 (lv_at hl 0 rfl) ?_
        refine lv_iadd hx hb dX10_copyRow_15 ?_
        refine p_nm (tt_add (X := 0) (Y := y63d.toInt) (by decide) rfl (by omega) (by omega)) (fun z67 hz67 => ?_)
        refine lv_aload_n hx hb dX10_copyRow_16 rfl (lv_at hl 1 rfl) ?_
        refine lv_iload_n hx hb dX10_copyRow_17 rfl (lv_at hl 2 rfl) ?_
        refine lv_iload_n hx hb dX10_copyRow_18 rfl (lv_at hl 3 rfl) ?_
        refine lv_imul hx hb dX10_copyRow_19 ?_
        refine pv_i (v := 120) (by decide) ?_
        refine lv_iload hx hb dX10_copyRow_20 (lv_at hl 0 rfl) ?_
        refine lv_iadd hx hb dX10_copyRow_22 ?_
        refine p_nm (tt_add (X := 120) (Y := y63d.toInt) (by decide) rfl (by omega) (by omega)) (fun z68 hz68 => ?_)
        refine va_iald hx hb hK hH.1 8 1 (mwc8 C A u64) rfl (i_ix hz68 (by omega) (by omega)) dX10_copyRow_23 ?_
        refine p_any (fun z69 => ?_)
        refine r_iast (j := 8) hx hb hK hH 8 1 (mwc8 C A u64) rfl (i_ix hz67 (by omega) (by omega)) (mwa8 C A u64) dX10_copyRow_24 (fun u70 eu70 H locs hH => ?_)
        have hI := hI.pa0 eu70 (by decide) (by decide) (by decide)
        obtain ⟨z71, ez71⟩ : ∃ z, z = y63d + Int32.ofInt 1 := ⟨_, rfl⟩
        have hz71 : z71.toInt = y63d.toInt + 1 := by rw [ez71]; exact tt_add rfl (by decide) (by omega) (by omega)
        refine lv_iinc (v := z71) (lv' := [(4, .int z71), (0, .ref (A 8)), (1, .int 30), (2, .int 4), (3, .int 0)]) hx hb dX10_copyRow_25 hl (k := 0) rfl ez71.symm (by decide) rfl (fun ls hl => ?_)
        refine lv_goto (tgt := 3) hx hb dX10_copyRow_28 (by decide) ?_
        exact ih3_64 ls z71 u70 _ _ (by have q9 := (show z71.toInt = (y63d.toInt + 1) from hz71); omega) (by have q9 := (show z71.toInt = (y63d.toInt + 1) from hz71); omega) (by have q9 := (show z71.toInt = (y63d.toInt + 1) from hz71); omega) (Un.sa hUu64 rfl eu70) hI hH hl
  exact lp3_64 31 ls 0 u _ _ (by decide) (by decide) (by have q9 : (0 : Int32).toInt = 0 := (by decide); omega) Un.rf hI hH hl
set_option maxHeartbeats 4000000 in
set_option maxRecDepth 100000 in
theorem kX10_copyRow_33 (l : Launch) (D : va_G) (C : Nat → ClassId) (A : Nat → Nat) (u : St) (hI : IM u) (sz : Nat) : MetV l yX10_copyRow cX10_copyRow 5 1 [.ref (A 9), .int 5, .int 4, .int 0] D (tyl C) (mw C A) X0 u sz (fun u' => IM u' ∧ Un [] [(9, 9)] [] u u' ∧ True) := by
  refine mV (by decide) (Nat.le_of_ble_eq_true rfl) ?_
  intro p e s m below meth c ls ar Q hx hb hml hown hts hK hH hX hl hret
  have hown : s.vm.findClass RX10 = some m.cls := hown
  have hl : lv_has ls 5 [(0, .ref (A 9)), (1, .int 5), (2, .int 4), (3, .int 0)] := hl
  refine lv_iconst (v := 0) hx hb dX10_copyRow_0 (by decide) ?_
  refine lv_istore (lv' := [(4, .int 0), (0, .ref (A 9)), (1, .int 5), (2, .int 4), (3, .int 0)]) hx hb dX10_copyRow_1 hl (by decide) rfl (fun ls hl => ?_)
  have lp3_37 : ∀ (n3 : Nat) (ls : Array Slot) (y36d : Int32) (u37 : St) (H : Heap) (locs : List Loc), 0 ≤ y36d.toInt → y36d.toInt ≤ 5 → 5 - y36d.toInt < (n3 : Int) → Un [] [(9, 9)] [] u u37 → IM u37 → Hd D (mw C A) (va_A (mw C A u) s.heap.size) s.heap u37 H locs → lv_has ls 5 [(4, .int y36d), (0, .ref (A 9)), (1, .int 5), (2, .int 4), (3, .int 0)] → W p l e (rmL 1 0 0) s m ar below meth c H locs 0 0 Q (F0 m 3 ls []) := by
    intro n3
    induction n3 with
    | zero => intro ls y36d u37 H locs ly36d my36d hmun3 hUu37 hI hH hl; exfalso; omega
    | succ n3 ih3_37 =>
      intro ls y36d u37 H locs ly36d my36d hmun3 hUu37 hI hH hl
      refine lv_iload hx hb dX10_copyRow_3 (lv_at hl 0 rfl) ?_
      refine lv_iload_n hx hb dX10_copyRow_5 rfl (lv_at hl 2 rfl) ?_
      refine lv_icmp_ge (tgt := 31) hx hb dX10_copyRow_6 (by decide) (fun c39 => ?_) (fun c39 => ?_)
      · have c39 := cLE (x := 5) (y := y36d) (X := 5) (Y := y36d.toInt) (by decide) rfl c39
        exact hret _ _ _ _ _ dX10_copyRow_31 ⟨hI, (Un.tr Un.rf hUu37 rfl rfl rfl), trivial⟩ hH
      · have c39 := cNLE (x := 5) (y := y36d) (X := 5) (Y := y36d.toInt) (by decide) rfl c39
        refine lv_aload_n hx hb dX10_copyRow_9 rfl (lv_at hl 1 rfl) ?_
        refine lv_iload_n hx hb dX10_copyRow_10 rfl (lv_at hl 2 rfl) ?_
        refine lv_iload_n hx hb dX10_copyRow_11 rfl (lv_at hl 4 rfl) ?_
        refine lv_imul hx hb dX10_copyRow_12 ?_
        refine pv_i (v := 0) (by decide) ?_
        refine lv_iload hx hb dX10_copyRow_13 (lv_at hl 0 rfl) ?_
        refine lv_iadd hx hb dX10_copyRow_15 ?_
        refine p_nm (tt_add (X := 0) (Y := y36d.toInt) (by decide) rfl (by omega) (by omega)) (fun z40 hz40 => ?_)
        refine lv_aload_n hx hb dX10_copyRow_16 rfl (lv_at hl 1 rfl) ?_
        refine lv_iload_n hx hb dX10_copyRow_17 rfl (lv_at hl 2 rfl) ?_
        refine lv_iload_n hx hb dX10_copyRow_18 rfl (lv_at hl 3 rfl) ?_
        refine lv_imul hx hb dX10_copyRow_19 ?_
        refine pv_i (v := 20) (by decide) ?_
        refine lv_iload hx hb dX10_copyRow_20 (lv_at hl 0 rfl) ?_
        refine lv_iadd hx hb dX10_copyRow_22 ?_
        refine p_nm (tt_add (X := 20) (Y := y36d.toInt) (by decide) rfl (by omega) (by omega)) (fun z41 hz41 => ?_)
        refine va_iald hx hb hK hH.1 9 1 (mwc9 C A u37) rfl (i_ix hz41 (by omega) (by omega)) dX10_copyRow_23 ?_
        refine p_any (fun z42 => ?_)
        refine r_iast (j := 9) hx hb hK hH 9 1 (mwc9 C A u37) rfl (i_ix hz40 (by omega) (by omega)) (mwa9 C A u37) dX10_copyRow_24 (fun u43 eu43 H locs hH => ?_)
        have hI := hI.pa0 eu43 (by decide) (by decide) (by decide)
        obtain ⟨z44, ez44⟩ : ∃ z, z = y36d + Int32.ofInt 1 := ⟨_, rfl⟩
        have hz44 : z44.toInt = y36d.toInt + 1 := by rw [ez44]; exact tt_add rfl (by decide) (by omega) (by omega)
        refine lv_iinc (v := z44) (lv' := [(4, .int z44), (0, .ref (A 9)), (1, .int 5), (2, .int 4), (3, .int 0)]) hx hb dX10_copyRow_25 hl (k := 0) rfl ez44.symm (by decide) rfl (fun ls hl => ?_)
        refine lv_goto (tgt := 3) hx hb dX10_copyRow_28 (by decide) ?_
        exact ih3_37 ls z44 u43 _ _ (by have q9 := (show z44.toInt = (y36d.toInt + 1) from hz44); omega) (by have q9 := (show z44.toInt = (y36d.toInt + 1) from hz44); omega) (by have q9 := (show z44.toInt = (y36d.toInt + 1) from hz44); omega) (Un.sa hUu37 rfl eu43) hI hH hl
  exact lp3_37 6 ls 0 u _ _ (by decide) (by decide) (by have q9 : (0 : Int32).toInt = 0 := (by decide); omega) Un.rf hI hH hl
set_option maxHeartbeats 4000000 in
set_option maxRecDepth 100000 in
theorem kX10_copyRow_34 (l : Launch) (D : va_G) (C : Nat → ClassId) (A : Nat → Nat) (u : St) (hI : IM u) (sz : Nat) : MetV l yX10_copyRow cX10_copyRow 5 1 [.ref (A 10), .int 120, .int 4, .int 0] D (tyl C) (mw C A) X0 u sz (fun u' => IM u' ∧ Un [] [(10, 10)] [] u u' ∧ True) := by
  refine mV (by decide) (Nat.le_of_ble_eq_true rfl) ?_
  intro p e s m below meth c ls ar Q hx hb hml hown hts hK hH hX hl hret
  have hown : s.vm.findClass RX10 = some m.cls := hown
  have hl : lv_has ls 5 [(0, .ref (A 10)), (1, .int 120), (2, .int 4), (3, .int 0)] := hl
  refine lv_iconst (v := 0) hx hb dX10_copyRow_0 (by decide) ?_
  refine lv_istore (lv' := [(4, .int 0), (0, .ref (A 10)), (1, .int 120), (2, .int 4), (3, .int 0)]) hx hb dX10_copyRow_1 hl (by decide) rfl (fun ls hl => ?_)
  have lp3_109 : ∀ (n3 : Nat) (ls : Array Slot) (y108d : Int32) (u109 : St) (H : Heap) (locs : List Loc), 0 ≤ y108d.toInt → y108d.toInt ≤ 120 → 120 - y108d.toInt < (n3 : Int) → Un [] [(10, 10)] [] u u109 → IM u109 → Hd D (mw C A) (va_A (mw C A u) s.heap.size) s.heap u109 H locs → lv_has ls 5 [(4, .int y108d), (0, .ref (A 10)), (1, .int 120), (2, .int 4), (3, .int 0)] → W p l e (rmL 1 0 0) s m ar below meth c H locs 0 0 Q (F0 m 3 ls []) := by
    intro n3
    induction n3 with
    | zero => intro ls y108d u109 H locs ly108d my108d hmun3 hUu109 hI hH hl; exfalso; omega
    | succ n3 ih3_109 =>
      intro ls y108d u109 H locs ly108d my108d hmun3 hUu109 hI hH hl
      refine lv_iload hx hb dX10_copyRow_3 (lv_at hl 0 rfl) ?_
      refine lv_iload_n hx hb dX10_copyRow_5 rfl (lv_at hl 2 rfl) ?_
      refine lv_icmp_ge (tgt := 31) hx hb dX10_copyRow_6 (by decide) (fun c111 => ?_) (fun c111 => ?_)
      · have c111 := cLE (x := 120) (y := y108d) (X := 120) (Y := y108d.toInt) (by decide) rfl c111
        exact hret _ _ _ _ _ dX10_copyRow_31 ⟨hI, (Un.tr Un.rf hUu109 rfl rfl rfl), trivial⟩ hH
      · have c111 := cNLE (x := 120) (y := y108d) (X := 120) (Y := y108d.toInt) (by decide) rfl c111
        refine lv_aload_n hx hb dX10_copyRow_9 rfl (lv_at hl 1 rfl) ?_
        refine lv_iload_n hx hb dX10_copyRow_10 rfl (lv_at hl 2 rfl) ?_
        refine lv_iload_n hx hb dX10_copyRow_11 rfl (lv_at hl 4 rfl) ?_
        refine lv_imul hx hb dX10_copyRow_12 ?_
        refine pv_i (v := 0) (by decide) ?_
        refine lv_iload hx hb dX10_copyRow_13 (lv_at hl 0 rfl) ?_
        refine lv_iadd hx hb dX10_copyRow_15 ?_
        refine p_nm (tt_add (X := 0) (Y := y108d.toInt) (by decide) rfl (by omega) (by omega)) (fun z112 hz112 => ?_)
        refine lv_aload_n hx hb dX10_copyRow_16 rfl (lv_at hl 1 rfl) ?_
        refine lv_iload_n hx hb dX10_copyRow_17 rfl (lv_at hl 2 rfl) ?_
        refine lv_iload_n hx hb dX10_copyRow_18 rfl (lv_at hl 3 rfl) ?_
        refine lv_imul hx hb dX10_copyRow_19 ?_
        refine pv_i (v := 480) (by decide) ?_
        refine lv_iload hx hb dX10_copyRow_20 (lv_at hl 0 rfl) ?_
        refine lv_iadd hx hb dX10_copyRow_22 ?_
        refine p_nm (tt_add (X := 480) (Y := y108d.toInt) (by decide) rfl (by omega) (by omega)) (fun z113 hz113 => ?_)
        refine va_iald hx hb hK hH.1 10 1 (mwc10 C A u109) rfl (i_ix hz113 (by omega) (by omega)) dX10_copyRow_23 ?_
        refine p_any (fun z114 => ?_)
        refine r_iast (j := 10) hx hb hK hH 10 1 (mwc10 C A u109) rfl (i_ix hz112 (by omega) (by omega)) (mwa10 C A u109) dX10_copyRow_24 (fun u115 eu115 H locs hH => ?_)
        have hI := hI.pa0 eu115 (by decide) (by decide) (by decide)
        obtain ⟨z116, ez116⟩ : ∃ z, z = y108d + Int32.ofInt 1 := ⟨_, rfl⟩
        have hz116 : z116.toInt = y108d.toInt + 1 := by rw [ez116]; exact tt_add rfl (by decide) (by omega) (by omega)
        refine lv_iinc (v := z116) (lv' := [(4, .int z116), (0, .ref (A 10)), (1, .int 120), (2, .int 4), (3, .int 0)]) hx hb dX10_copyRow_25 hl (k := 0) rfl ez116.symm (by decide) rfl (fun ls hl => ?_)
        refine lv_goto (tgt := 3) hx hb dX10_copyRow_28 (by decide) ?_
        exact ih3_109 ls z116 u115 _ _ (by have q9 := (show z116.toInt = (y108d.toInt + 1) from hz116); omega) (by have q9 := (show z116.toInt = (y108d.toInt + 1) from hz116); omega) (by have q9 := (show z116.toInt = (y108d.toInt + 1) from hz116); omega) (Un.sa hUu109 rfl eu115) hI hH hl
  exact lp3_109 121 ls 0 u _ _ (by decide) (by decide) (by have q9 : (0 : Int32).toInt = 0 := (by decide); omega) Un.rf hI hH hl
set_option maxHeartbeats 4000000 in
set_option maxRecDepth 100000 in
theorem kX10_copyTown_6 (l : Launch) (D : va_G) (C : Nat → ClassId) (A : Nat → Nat) (u : St) (hI : IM u) (sz : Nat) : MetV l yX10_copyTown cX10_copyTown 3 2 [.ref (A 0), .int 4, .int 0] D (tyl C) (mw C A) X0 u sz (fun u' => IM u' ∧ Un [] [(6, 6), (7, 7), (8, 8), (9, 9), (10, 10)] [] u u' ∧ True) := by
  refine mV (by decide) (Nat.le_of_ble_eq_true rfl) ?_
  intro p e s m below meth c ls ar Q hx hb hml hown hts hK hH hX hl hret
  have hown : s.vm.findClass RX10 = some m.cls := hown
  have hl : lv_has ls 3 [(0, .ref (A 0)), (1, .int 4), (2, .int 0)] := hl
  refine lv_aload_n hx hb dX10_copyTown_0 rfl (lv_at hl 0 rfl) ?_
  refine va_get (ci := 10) (v := .ref (A 6)) (C := RX10) (T := TX10) (N := 42) hx hb hts (fun w h => uc_in w (inX10 w h)) hown hK hH.1 0 (mwc0 C A u) rfl 16 (by decide) (hts _ (uc_in _ q_f1204)) (fun _ h9 => h9) rfl dX10_copyTown_1 ?_
  refine lv_iconst (v := 1) hx hb dX10_copyTown_4 (by decide) ?_
  refine lv_iload_n hx hb dX10_copyTown_5 rfl (lv_at hl 1 rfl) ?_
  refine lv_iload_n hx hb dX10_copyTown_6 rfl (lv_at hl 2 rfl) ?_
  refine csU (n := 4) (As := [.ref (A 6), .int 1, .int 4, .int 0]) (rest := []) ⟨hx, hb, hml, hown, hts⟩ uc_in (kX10_copyRow_30 l D C A u hI  _) q_m1453 q_s1454 q_i11 q_c1455 hvX10_copyRow ⟨(Nat.le_of_ble_eq_true rfl), (Nat.le_of_ble_eq_true rfl)⟩ ⟨(Nat.le_of_ble_eq_true rfl), (Nat.le_of_ble_eq_true rfl)⟩ hK hH (fun q h => Or.inr h) Bl0 (fun _ _ _ => trivial) rfl hl.1 rfl (Nat.le_of_ble_eq_true rfl) dX10_copyTown_7 (fun u1 H locs p3 hH => ?_)
  obtain ⟨hI, hUu1, p3⟩ := p3
  refine lv_aload_n hx hb dX10_copyTown_10 rfl (lv_at hl 0 rfl) ?_
  refine va_get (ci := 10) (v := .ref (A 7)) (C := RX10) (T := TX10) (N := 42) hx hb hts (fun w h => uc_in w (inX10 w h)) hown hK hH.1 0 (mwc0 C A u1) rfl 17 (by decide) (hts _ (uc_in _ q_f1205)) (fun _ h9 => h9) rfl dX10_copyTown_11 ?_
  refine lv_bipush (v := 6) hx hb dX10_copyTown_14 (by decide) ?_
  refine lv_iload_n hx hb dX10_copyTown_16 rfl (lv_at hl 1 rfl) ?_
  refine lv_iload_n hx hb dX10_copyTown_17 rfl (lv_at hl 2 rfl) ?_
  refine csU (n := 4) (As := [.ref (A 7), .int 6, .int 4, .int 0]) (rest := []) ⟨hx, hb, hml, hown, hts⟩ uc_in (kX10_copyRow_31 l D C A u1 hI  _) q_m1453 q_s1454 q_i11 q_c1455 hvX10_copyRow ⟨(Nat.le_of_ble_eq_true rfl), (Nat.le_of_ble_eq_true rfl)⟩ ⟨(Nat.le_of_ble_eq_true rfl), (Nat.le_of_ble_eq_true rfl)⟩ hK hH (fun q h => Or.inr h) Bl0 (fun _ _ _ => trivial) rfl hl.1 rfl (Nat.le_of_ble_eq_true rfl) dX10_copyTown_18 (fun u4 H locs p6 hH => ?_)
  obtain ⟨hI, hUu4, p6⟩ := p6
  refine lv_aload_n hx hb dX10_copyTown_21 rfl (lv_at hl 0 rfl) ?_
  refine va_get (ci := 10) (v := .ref (A 8)) (C := RX10) (T := TX10) (N := 42) hx hb hts (fun w h => uc_in w (inX10 w h)) hown hK hH.1 0 (mwc0 C A u4) rfl 18 (by decide) (hts _ (uc_in _ q_f1206)) (fun _ h9 => h9) rfl dX10_copyTown_22 ?_
  refine lv_bipush (v := 30) hx hb dX10_copyTown_25 (by decide) ?_
  refine lv_iload_n hx hb dX10_copyTown_27 rfl (lv_at hl 1 rfl) ?_
  refine lv_iload_n hx hb dX10_copyTown_28 rfl (lv_at hl 2 rfl) ?_
  refine csU (n := 4) (As := [.ref (A 8), .int 30, .int 4, .int 0]) (rest := []) ⟨hx, hb, hml, hown, hts⟩ uc_in (kX10_copyRow_32 l D C A u4 hI  _) q_m1453 q_s1454 q_i11 q_c1455 hvX10_copyRow ⟨(Nat.le_of_ble_eq_true rfl), (Nat.le_of_ble_eq_true rfl)⟩ ⟨(Nat.le_of_ble_eq_true rfl), (Nat.le_of_ble_eq_true rfl)⟩ hK hH (fun q h => Or.inr h) Bl0 (fun _ _ _ => trivial) rfl hl.1 rfl (Nat.le_of_ble_eq_true rfl) dX10_copyTown_29 (fun u7 H locs p9 hH => ?_)
  obtain ⟨hI, hUu7, p9⟩ := p9
  refine lv_aload_n hx hb dX10_copyTown_32 rfl (lv_at hl 0 rfl) ?_
  refine va_get (ci := 10) (v := .ref (A 9)) (C := RX10) (T := TX10) (N := 42) hx hb hts (fun w h => uc_in w (inX10 w h)) hown hK hH.1 0 (mwc0 C A u7) rfl 19 (by decide) (hts _ (uc_in _ q_f1207)) (fun _ h9 => h9) rfl dX10_copyTown_33 ?_
  refine lv_iconst (v := 5) hx hb dX10_copyTown_36 (by decide) ?_
  refine lv_iload_n hx hb dX10_copyTown_37 rfl (lv_at hl 1 rfl) ?_
  refine lv_iload_n hx hb dX10_copyTown_38 rfl (lv_at hl 2 rfl) ?_
  refine csU (n := 4) (As := [.ref (A 9), .int 5, .int 4, .int 0]) (rest := []) ⟨hx, hb, hml, hown, hts⟩ uc_in (kX10_copyRow_33 l D C A u7 hI  _) q_m1453 q_s1454 q_i11 q_c1455 hvX10_copyRow ⟨(Nat.le_of_ble_eq_true rfl), (Nat.le_of_ble_eq_true rfl)⟩ ⟨(Nat.le_of_ble_eq_true rfl), (Nat.le_of_ble_eq_true rfl)⟩ hK hH (fun q h => Or.inr h) Bl0 (fun _ _ _ => trivial) rfl hl.1 rfl (Nat.le_of_ble_eq_true rfl) dX10_copyTown_39 (fun u10 H locs p12 hH => ?_)
  obtain ⟨hI, hUu10, p12⟩ := p12
  refine lv_aload_n hx hb dX10_copyTown_42 rfl (lv_at hl 0 rfl) ?_
  refine va_get (ci := 10) (v := .ref (A 10)) (C := RX10) (T := TX10) (N := 42) hx hb hts (fun w h => uc_in w (inX10 w h)) hown hK hH.1 0 (mwc0 C A u10) rfl 20 (by decide) (hts _ (uc_in _ q_f1208)) (fun _ h9 => h9) rfl dX10_copyTown_43 ?_
  refine lv_bipush (v := 120) hx hb dX10_copyTown_46 (by decide) ?_
  refine lv_iload_n hx hb dX10_copyTown_48 rfl (lv_at hl 1 rfl) ?_
  refine lv_iload_n hx hb dX10_copyTown_49 rfl (lv_at hl 2 rfl) ?_
  refine csU (n := 4) (As := [.ref (A 10), .int 120, .int 4, .int 0]) (rest := []) ⟨hx, hb, hml, hown, hts⟩ uc_in (kX10_copyRow_34 l D C A u10 hI  _) q_m1453 q_s1454 q_i11 q_c1455 hvX10_copyRow ⟨(Nat.le_of_ble_eq_true rfl), (Nat.le_of_ble_eq_true rfl)⟩ ⟨(Nat.le_of_ble_eq_true rfl), (Nat.le_of_ble_eq_true rfl)⟩ hK hH (fun q h => Or.inr h) Bl0 (fun _ _ _ => trivial) rfl hl.1 rfl (Nat.le_of_ble_eq_true rfl) dX10_copyTown_50 (fun u13 H locs p15 hH => ?_)
  obtain ⟨hI, hUu13, p15⟩ := p15
  exact hret _ _ _ _ _ dX10_copyTown_53 ⟨hI, (Un.tr (Un.tr (Un.tr (Un.tr (Un.tr Un.rf hUu1 rfl rfl rfl) hUu4 rfl rfl rfl) hUu7 rfl rfl rfl) hUu10 rfl rfl rfl) hUu13 rfl rfl rfl), trivial⟩ hH
set_option maxHeartbeats 4000000 in
set_option maxRecDepth 100000 in
theorem kX10_is_0 (l : Launch) (D : va_G) (C : Nat → ClassId) (A : Nat → Nat) (u : St) (hI : IM u) (a0 : Int64) (A0 : Int) (ha0 : a0.toInt = A0) : Met l yX10_is (uc yX10_is cX10_is 3 (some .boolean)) (rmL 1 0 0) (va_Pc [.ref (A 0), .long a0] (PreR D (tyl C) (mw C A u))) (vp_Si (fun r => 0 ≤ r.toInt ∧ r.toInt ≤ 1)) 0 0 (fun _ => False) := by
  refine mS (by decide) (Nat.le_of_ble_eq_true rfl) ?_
  intro p e s m below meth c ls ar Q hx hb hml hown hts hK hP hl hret
  have hown : s.vm.findClass RX10 = some m.cls := hown
  have hl : lv_has ls 3 [(0, .ref (A 0)), (1, .long a0)] := hl
  refine lv_aload_n hx hb dX10_is_0 rfl (lv_at hl 0 rfl) ?_
  refine va_get (ci := 10) (v := .int (gi u 12)) (C := RX10) (T := TX10) (N := 42) hx hb hts (fun w h => uc_in w (inX10 w h)) hown hK hP 0 (mwc0 C A u) rfl 12 (by decide) (hts _ (uc_in _ q_f1200)) (fun _ h9 => h9) rfl dX10_is_1 ?_
  refine lv_if_ne (tgt := 28) hx hb dX10_is_4 (by decide) (fun c1 => ?_) (fun c1 => ?_)
  · refine lv_iconst (v := 0) hx hb dX10_is_28 (by decide) ?_
    exact hret _ _ (0 : Int32) dX10_is_29 rfl ⟨by decide, by decide⟩
  · have c1 := cEQ (x := (gi u 12)) (y := 0) (X := ((gi u 12)).toInt) (Y := 0) rfl (by decide) c1
    refine lv_aload_n hx hb dX10_is_7 rfl (lv_at hl 0 rfl) ?_
    refine va_get (ci := 10) (v := .int (gi u 8)) (C := RX10) (T := TX10) (N := 42) hx hb hts (fun w h => uc_in w (inX10 w h)) hown hK hP 0 (mwc0 C A u) rfl 8 (by decide) (hts _ (uc_in _ q_f1196)) (fun _ h9 => h9) rfl dX10_is_8 ?_
    refine lv_iconst (v := 1) hx hb dX10_is_11 (by decide) ?_
    refine lv_icmp_ne (tgt := 28) hx hb dX10_is_12 (by decide) (fun c2 => ?_) (fun c2 => ?_)
    · refine lv_iconst (v := 0) hx hb dX10_is_28 (by decide) ?_
      exact hret _ _ (0 : Int32) dX10_is_29 rfl ⟨by decide, by decide⟩
    · have c2 := cEQ (x := (gi u 8)) (y := 1) (X := ((gi u 8)).toInt) (Y := 1) rfl (by decide) c2
      refine lv_aload_n hx hb dX10_is_15 rfl (lv_at hl 0 rfl) ?_
      refine va_get (ci := 10) (v := .long (gl u 11)) (C := RX10) (T := TX10) (N := 42) hx hb hts (fun w h => uc_in w (inX10 w h)) hown hK hP 0 (mwc0 C A u) rfl 11 (by decide) (hts _ (uc_in _ q_f1199)) (fun _ h9 => h9) rfl dX10_is_16 ?_
      refine p_anyl (fun z3 => ?_)
      refine lv_lload_n hx hb dX10_is_19 rfl (lv_at hl 1 rfl) ?_
      refine W.lcmp hx hb dX10_is_20 ?_
      refine lv_if_ne (tgt := 28) hx hb dX10_is_21 (by decide) (fun c4 => ?_) (fun c4 => ?_)
      · refine lv_iconst (v := 0) hx hb dX10_is_28 (by decide) ?_
        exact hret _ _ (0 : Int32) dX10_is_29 rfl ⟨by decide, by decide⟩
      · refine lv_iconst (v := 1) hx hb dX10_is_24 (by decide) ?_
        refine lv_goto (tgt := 29) hx hb dX10_is_25 (by decide) ?_
        exact hret _ _ (1 : Int32) dX10_is_29 rfl ⟨by decide, by decide⟩
set_option maxHeartbeats 4000000 in
set_option maxRecDepth 100000 in
theorem kX10_hasRead_0 (l : Launch) (D : va_G) (C : Nat → ClassId) (A : Nat → Nat) (u : St) (hI : IM u) : Met l yX10_hasRead (uc yX10_hasRead cX10_hasRead 2 (some .int)) (rmL 1 0 0) (va_Pc [.ref (A 0), .int 3] (PreR D (tyl C) (mw C A u))) (vp_Si (fun r => r = ga u 7 27)) 0 0 (fun _ => False) := by
  refine mS (by decide) (Nat.le_of_ble_eq_true rfl) ?_
  intro p e s m below meth c ls ar Q hx hb hml hown hts hK hP hl hret
  have hown : s.vm.findClass RX10 = some m.cls := hown
  have hl : lv_has ls 2 [(0, .ref (A 0)), (1, .int 3)] := hl
  refine lv_aload_n hx hb dX10_hasRead_0 rfl (lv_at hl 0 rfl) ?_
  refine va_get (ci := 10) (v := .ref (A 7)) (C := RX10) (T := TX10) (N := 42) hx hb hts (fun w h => uc_in w (inX10 w h)) hown hK hP 0 (mwc0 C A u) rfl 17 (by decide) (hts _ (uc_in _ q_f1205)) (fun _ h9 => h9) rfl dX10_hasRead_1 ?_
  refine lv_bipush (v := 24) hx hb dX10_hasRead_4 (by decide) ?_
  refine lv_iload_n hx hb dX10_hasRead_6 rfl (lv_at hl 1 rfl) ?_
  refine lv_iadd hx hb dX10_hasRead_7 ?_
  refine pv_i (v := 27) (by decide) ?_
  refine va_iald hx hb hK hP 7 1 (mwc7 C A u) rfl (i_ix (X := 27) (by decide) (by decide) (by decide)) dX10_hasRead_8 ?_
  refine pv_i (v := (ga u 7 27)) rfl ?_
  have b1 : 0 ≤ ((ga u 7 27)).toInt ∧ ((ga u 7 27)).toInt ≤ 6 := hI.has 27
  exact hret _ _ (ga u 7 27) dX10_hasRead_9 rfl rfl
set_option maxHeartbeats 4000000 in
set_option maxRecDepth 100000 in
theorem kX10_fails_0 (l : Launch) (D : va_G) (C : Nat → ClassId) (A : Nat → Nat) (u : St) (hI : IM u) (sz : Nat) : MetV l yX10_fails cX10_fails 2 1 [.ref (A 0), .int 3] D (tyl C) (mw C A) X0 u sz (fun u' => IM u' ∧ Un [(12, 12), (13, 13)] [] [] u u' ∧ (gi u' 12).toInt ≠ 0) := by
  refine mV (by decide) (Nat.le_of_ble_eq_true rfl) ?_
  intro p e s m below meth c ls ar Q hx hb hml hown hts hK hH hX hl hret
  have hown : s.vm.findClass RX10 = some m.cls := hown
  have hl : lv_has ls 2 [(0, .ref (A 0)), (1, .int 3)] := hl
  refine lv_aload_n hx hb dX10_fails_0 rfl (lv_at hl 0 rfl) ?_
  refine va_get (ci := 10) (v := .int (gi u 12)) (C := RX10) (T := TX10) (N := 42) hx hb hts (fun w h => uc_in w (inX10 w h)) hown hK hH.1 0 (mwc0 C A u) rfl 12 (by decide) (hts _ (uc_in _ q_f1200)) (fun _ h9 => h9) rfl dX10_fails_1 ?_
  refine lv_if_eq (tgt := 8) hx hb dX10_fails_4 (by decide) (fun c1 => ?_) (fun c1 => ?_)
  · have c1 := cEQ (x := (gi u 12)) (y := 0) (X := ((gi u 12)).toInt) (Y := 0) rfl (by decide) c1
    refine lv_aload_n hx hb dX10_fails_8 rfl (lv_at hl 0 rfl) ?_
    refine lv_iload_n hx hb dX10_fails_9 rfl (lv_at hl 1 rfl) ?_
    refine r_put (j := 12) (ci := 10) (C := RX10) (T := TX10) (N := 42) hx hb hts (fun w h => uc_in w (inX10 w h)) tyX10 tyX10_ok nmX10 hown hK hH 0 (mwc0 C A u) rfl 12 (by decide) (hts _ (uc_in _ q_f1200)) (fun _ h9 => h9) rfl (by decide +kernel) (Nat.le_of_ble_eq_true rfl) (mws12 C A u _) dX10_fails_10 (fun u2 eu2 H locs hH => ?_)
    have hI := hI.pi0 eu2 rfl
    refine lv_aload_n hx hb dX10_fails_13 rfl (lv_at hl 0 rfl) ?_
    refine lv_aload_n hx hb dX10_fails_14 rfl (lv_at hl 0 rfl) ?_
    refine va_get (ci := 10) (v := .int (gi u2 9)) (C := RX10) (T := TX10) (N := 42) hx hb hts (fun w h => uc_in w (inX10 w h)) hown hK hH.1 0 (mwc0 C A u2) rfl 9 (by decide) (hts _ (uc_in _ q_f1197)) (fun _ h9 => h9) rfl dX10_fails_15 ?_
    refine r_put (j := 13) (ci := 10) (C := RX10) (T := TX10) (N := 42) hx hb hts (fun w h => uc_in w (inX10 w h)) tyX10 tyX10_ok nmX10 hown hK hH 0 (mwc0 C A u2) rfl 13 (by decide) (hts _ (uc_in _ q_f1201)) (fun _ h9 => h9) rfl (by decide +kernel) (Nat.le_of_ble_eq_true rfl) (mws13 C A u2 _) dX10_fails_18 (fun u3 eu3 H locs hH => ?_)
    have hI := hI.pi0 eu3 rfl
    exact hret _ _ _ _ _ dX10_fails_21 ⟨hI, (Un.si (Un.si Un.rf rfl eu2) rfl eu3), (by have q12 := (show (gi u3 12).toInt = 3 from (congrArg Int32.toInt (show gi u3 12 = 3 from ((gi_ne eu3 (by decide)).trans (gi_si eu2)))).trans (by decide)); omega)⟩ hH
  · have c1 := cNE (x := (gi u 12)) (y := 0) (X := ((gi u 12)).toInt) (Y := 0) rfl (by decide) c1
    exact hret _ _ _ _ _ dX10_fails_7 ⟨hI, Un.rf, (by have q12 := (show (gi u 12).toInt = ((gi u 12)).toInt from (congrArg Int32.toInt (show gi u 12 = (gi u 12) from rfl)).trans rfl); omega)⟩ hH
set_option maxHeartbeats 4000000 in
set_option maxRecDepth 100000 in
theorem kX10_isRoom_0 (l : Launch) (D : va_G) (C : Nat → ClassId) (A : Nat → Nat) (u : St) (hI : IM u) (a0 : Int32) (A0 : Int) (ha0 : a0.toInt = A0) (hPI : (gi u 9).toInt ≤ (gi u 7).toInt ∧ (gi u 7).toInt ≤ (gi u 6).toInt ∧ ((gi u 8).toInt = 0 ∨ (gi u 9).toInt < (gi u 7).toInt)) (sz : Nat) : MetI l yX10_isRoom cX10_isRoom 4 (some .boolean) 3 [.ref (A 0), .int a0, .int 3, .int 6] D (tyl C) (mw C A) X0 u sz (fun r u' => IM u' ∧ Un [(7, 7), (8, 8), (9, 9), (10, 10), (12, 12), (13, 13)] [] [] u u' ∧ (((gi u' 9).toInt ≤ (gi u' 7).toInt ∧ (gi u' 7).toInt ≤ (gi u 6).toInt ∧ ((gi u' 8).toInt = 0 ∨ (gi u' 9).toInt < (gi u' 7).toInt)) ∧ (gi u 9).toInt ≤ (gi u' 9).toInt ∧ ((r = 1 ∧ (ga u' 7 27).toInt ≤ 5) ∨ r = 0))) := by
  refine mI (by decide) (Nat.le_of_ble_eq_true rfl) ?_
  intro p e s m below meth c ls ar Q hx hb hml hown hts hK hH hX hl hret
  have hown : s.vm.findClass RX10 = some m.cls := hown
  have hl : lv_has ls 4 [(0, .ref (A 0)), (1, .int a0), (2, .int 3), (3, .int 6)] := hl
  refine lv_iload_n hx hb dX10_isRoom_0 rfl (lv_at hl 1 rfl) ?_
  refine lv_if_eq (tgt := 18) hx hb dX10_isRoom_1 (by decide) (fun c1 => ?_) (fun c1 => ?_)
  · have c1 := cEQ (x := a0) (y := 0) (X := A0) (Y := 0) ha0 (by decide) c1
    refine lv_iload_n hx hb dX10_isRoom_18 rfl (lv_at hl 1 rfl) ?_
    refine lv_if_eq (tgt := 33) hx hb dX10_isRoom_19 (by decide) (fun c2 => ?_) (fun c2 => absurd (cNE (x := a0) (y := 0) (X := A0) (Y := 0) ha0 (by decide) c2) (by omega))
    have c2 := cEQ (x := a0) (y := 0) (X := A0) (Y := 0) ha0 (by decide) c2
    refine lv_iload_n hx hb dX10_isRoom_33 rfl (lv_at hl 1 rfl) ?_
    refine lv_if_eq (tgt := 48) hx hb dX10_isRoom_34 (by decide) (fun c3 => ?_) (fun c3 => absurd (cNE (x := a0) (y := 0) (X := A0) (Y := 0) ha0 (by decide) c3) (by omega))
    have c3 := cEQ (x := a0) (y := 0) (X := A0) (Y := 0) ha0 (by decide) c3
    refine lv_iconst (v := 0) hx hb dX10_isRoom_48 (by decide) ?_
    exact hret _ _ _ _ (0 : Int32) _ dX10_isRoom_49 rfl ⟨hI, Un.rf, ⟨by have q6 := (show (gi u 6).toInt = ((gi u 6)).toInt from (congrArg Int32.toInt (show gi u 6 = (gi u 6) from rfl)).trans rfl); have q7 := (show (gi u 7).toInt = ((gi u 7)).toInt from (congrArg Int32.toInt (show gi u 7 = (gi u 7) from rfl)).trans rfl); have q8 := (show (gi u 8).toInt = ((gi u 8)).toInt from (congrArg Int32.toInt (show gi u 8 = (gi u 8) from rfl)).trans rfl); have q9 := (show (gi u 9).toInt = ((gi u 9)).toInt from (congrArg Int32.toInt (show gi u 9 = (gi u 9) from rfl)).trans rfl); have q12 := (show (gi u 12).toInt = ((gi u 12)).toInt from (congrArg Int32.toInt (show gi u 12 = (gi u 12) from rfl)).trans rfl); omega, by have q6 := (show (gi u 6).toInt = ((gi u 6)).toInt from (congrArg Int32.toInt (show gi u 6 = (gi u 6) from rfl)).trans rfl); have q7 := (show (gi u 7).toInt = ((gi u 7)).toInt from (congrArg Int32.toInt (show gi u 7 = (gi u 7) from rfl)).trans rfl); have q8 := (show (gi u 8).toInt = ((gi u 8)).toInt from (congrArg Int32.toInt (show gi u 8 = (gi u 8) from rfl)).trans rfl); have q9 := (show (gi u 9).toInt = ((gi u 9)).toInt from (congrArg Int32.toInt (show gi u 9 = (gi u 9) from rfl)).trans rfl); have q12 := (show (gi u 12).toInt = ((gi u 12)).toInt from (congrArg Int32.toInt (show gi u 12 = (gi u 12) from rfl)).trans rfl); omega, (Or.inr rfl)⟩⟩ hH
  · have c1 := cNE (x := a0) (y := 0) (X := A0) (Y := 0) ha0 (by decide) c1
    refine lv_aload_n hx hb dX10_isRoom_4 rfl (lv_at hl 0 rfl) ?_
    refine lv_iload_n hx hb dX10_isRoom_5 rfl (lv_at hl 2 rfl) ?_
    refine cvS (n := 1) (As := [.int 3]) (rest := []) ⟨hx, hb, hml, hown, hts⟩ uc_in (kX10_hasRead_0 l D C A u hI ) q_m1424 q_n1426 q_p66 q_i11 q_c1427 hvX10_hasRead ⟨(Nat.le_of_ble_eq_true rfl), (Nat.le_of_ble_eq_true rfl)⟩ ⟨(Nat.le_of_ble_eq_true rfl), (Nat.le_of_ble_eq_true rfl)⟩ hK hH.1 10 0 rfl (mwc0 C A u) rfl hl.1 rfl (Nat.le_of_ble_eq_true rfl) dX10_isRoom_6 (fun r4 p5 => ?_)
    subst p5
    have b6 : 0 ≤ ((ga u 7 27)).toInt ∧ ((ga u 7 27)).toInt ≤ 6 := hI.has 27
    refine lv_iload_n hx hb dX10_isRoom_9 rfl (lv_at hl 3 rfl) ?_
    refine lv_icmp_ne (tgt := 18) hx hb dX10_isRoom_10 (by decide) (fun c7 => ?_) (fun c7 => ?_)
    · have c7 := cNE (x := (ga u 7 27)) (y := 6) (X := ((ga u 7 27)).toInt) (Y := 6) rfl (by decide) c7
      refine lv_iload_n hx hb dX10_isRoom_18 rfl (lv_at hl 1 rfl) ?_
      refine lv_if_eq (tgt := 33) hx hb dX10_isRoom_19 (by decide) (fun c8 => ?_) (fun c8 => ?_)
      · have c8 := cEQ (x := a0) (y := 0) (X := A0) (Y := 0) ha0 (by decide) c8
        refine lv_iload_n hx hb dX10_isRoom_33 rfl (lv_at hl 1 rfl) ?_
        refine lv_if_eq (tgt := 48) hx hb dX10_isRoom_34 (by decide) (fun c9 => ?_) (fun c9 => absurd (cNE (x := a0) (y := 0) (X := A0) (Y := 0) ha0 (by decide) c9) (by omega))
        have c9 := cEQ (x := a0) (y := 0) (X := A0) (Y := 0) ha0 (by decide) c9
        refine lv_iconst (v := 0) hx hb dX10_isRoom_48 (by decide) ?_
        exact hret _ _ _ _ (0 : Int32) _ dX10_isRoom_49 rfl ⟨hI, Un.rf, ⟨by have q6 := (show (gi u 6).toInt = ((gi u 6)).toInt from (congrArg Int32.toInt (show gi u 6 = (gi u 6) from rfl)).trans rfl); have q7 := (show (gi u 7).toInt = ((gi u 7)).toInt from (congrArg Int32.toInt (show gi u 7 = (gi u 7) from rfl)).trans rfl); have q8 := (show (gi u 8).toInt = ((gi u 8)).toInt from (congrArg Int32.toInt (show gi u 8 = (gi u 8) from rfl)).trans rfl); have q9 := (show (gi u 9).toInt = ((gi u 9)).toInt from (congrArg Int32.toInt (show gi u 9 = (gi u 9) from rfl)).trans rfl); have q12 := (show (gi u 12).toInt = ((gi u 12)).toInt from (congrArg Int32.toInt (show gi u 12 = (gi u 12) from rfl)).trans rfl); omega, by have q6 := (show (gi u 6).toInt = ((gi u 6)).toInt from (congrArg Int32.toInt (show gi u 6 = (gi u 6) from rfl)).trans rfl); have q7 := (show (gi u 7).toInt = ((gi u 7)).toInt from (congrArg Int32.toInt (show gi u 7 = (gi u 7) from rfl)).trans rfl); have q8 := (show (gi u 8).toInt = ((gi u 8)).toInt from (congrArg Int32.toInt (show gi u 8 = (gi u 8) from rfl)).trans rfl); have q9 := (show (gi u 9).toInt = ((gi u 9)).toInt from (congrArg Int32.toInt (show gi u 9 = (gi u 9) from rfl)).trans rfl); have q12 := (show (gi u 12).toInt = ((gi u 12)).toInt from (congrArg Int32.toInt (show gi u 12 = (gi u 12) from rfl)).trans rfl); omega, (Or.inr rfl)⟩⟩ hH
      · have c8 := cNE (x := a0) (y := 0) (X := A0) (Y := 0) ha0 (by decide) c8
        refine lv_aload_n hx hb dX10_isRoom_22 rfl (lv_at hl 0 rfl) ?_
        refine va_get (ci := 10) (v := .int (gi u 12)) (C := RX10) (T := TX10) (N := 42) hx hb hts (fun w h => uc_in w (inX10 w h)) hown hK hH.1 0 (mwc0 C A u) rfl 12 (by decide) (hts _ (uc_in _ q_f1200)) (fun _ h9 => h9) rfl dX10_isRoom_23 ?_
        refine lv_if_ne (tgt := 33) hx hb dX10_isRoom_26 (by decide) (fun c10 => ?_) (fun c10 => ?_)
        · have c10 := cNE (x := (gi u 12)) (y := 0) (X := ((gi u 12)).toInt) (Y := 0) rfl (by decide) c10
          refine lv_iload_n hx hb dX10_isRoom_33 rfl (lv_at hl 1 rfl) ?_
          refine lv_if_eq (tgt := 48) hx hb dX10_isRoom_34 (by decide) (fun c11 => ?_) (fun c11 => ?_)
          · have c11 := cEQ (x := a0) (y := 0) (X := A0) (Y := 0) ha0 (by decide) c11
            refine lv_iconst (v := 0) hx hb dX10_isRoom_48 (by decide) ?_
            exact hret _ _ _ _ (0 : Int32) _ dX10_isRoom_49 rfl ⟨hI, Un.rf, ⟨by have q6 := (show (gi u 6).toInt = ((gi u 6)).toInt from (congrArg Int32.toInt (show gi u 6 = (gi u 6) from rfl)).trans rfl); have q7 := (show (gi u 7).toInt = ((gi u 7)).toInt from (congrArg Int32.toInt (show gi u 7 = (gi u 7) from rfl)).trans rfl); have q8 := (show (gi u 8).toInt = ((gi u 8)).toInt from (congrArg Int32.toInt (show gi u 8 = (gi u 8) from rfl)).trans rfl); have q9 := (show (gi u 9).toInt = ((gi u 9)).toInt from (congrArg Int32.toInt (show gi u 9 = (gi u 9) from rfl)).trans rfl); have q12 := (show (gi u 12).toInt = ((gi u 12)).toInt from (congrArg Int32.toInt (show gi u 12 = (gi u 12) from rfl)).trans rfl); omega, by have q6 := (show (gi u 6).toInt = ((gi u 6)).toInt from (congrArg Int32.toInt (show gi u 6 = (gi u 6) from rfl)).trans rfl); have q7 := (show (gi u 7).toInt = ((gi u 7)).toInt from (congrArg Int32.toInt (show gi u 7 = (gi u 7) from rfl)).trans rfl); have q8 := (show (gi u 8).toInt = ((gi u 8)).toInt from (congrArg Int32.toInt (show gi u 8 = (gi u 8) from rfl)).trans rfl); have q9 := (show (gi u 9).toInt = ((gi u 9)).toInt from (congrArg Int32.toInt (show gi u 9 = (gi u 9) from rfl)).trans rfl); have q12 := (show (gi u 12).toInt = ((gi u 12)).toInt from (congrArg Int32.toInt (show gi u 12 = (gi u 12) from rfl)).trans rfl); omega, (Or.inr rfl)⟩⟩ hH
          · have c11 := cNE (x := a0) (y := 0) (X := A0) (Y := 0) ha0 (by decide) c11
            refine lv_aload_n hx hb dX10_isRoom_37 rfl (lv_at hl 0 rfl) ?_
            refine va_get (ci := 10) (v := .int (gi u 12)) (C := RX10) (T := TX10) (N := 42) hx hb hts (fun w h => uc_in w (inX10 w h)) hown hK hH.1 0 (mwc0 C A u) rfl 12 (by decide) (hts _ (uc_in _ q_f1200)) (fun _ h9 => h9) rfl dX10_isRoom_38 ?_
            refine lv_if_ne (tgt := 48) hx hb dX10_isRoom_41 (by decide) (fun c12 => ?_) (fun c12 => ?_)
            · have c12 := cNE (x := (gi u 12)) (y := 0) (X := ((gi u 12)).toInt) (Y := 0) rfl (by decide) c12
              refine lv_iconst (v := 0) hx hb dX10_isRoom_48 (by decide) ?_
              exact hret _ _ _ _ (0 : Int32) _ dX10_isRoom_49 rfl ⟨hI, Un.rf, ⟨by have q6 := (show (gi u 6).toInt = ((gi u 6)).toInt from (congrArg Int32.toInt (show gi u 6 = (gi u 6) from rfl)).trans rfl); have q7 := (show (gi u 7).toInt = ((gi u 7)).toInt from (congrArg Int32.toInt (show gi u 7 = (gi u 7) from rfl)).trans rfl); have q8 := (show (gi u 8).toInt = ((gi u 8)).toInt from (congrArg Int32.toInt (show gi u 8 = (gi u 8) from rfl)).trans rfl); have q9 := (show (gi u 9).toInt = ((gi u 9)).toInt from (congrArg Int32.toInt (show gi u 9 = (gi u 9) from rfl)).trans rfl); have q12 := (show (gi u 12).toInt = ((gi u 12)).toInt from (congrArg Int32.toInt (show gi u 12 = (gi u 12) from rfl)).trans rfl); omega, by have q6 := (show (gi u 6).toInt = ((gi u 6)).toInt from (congrArg Int32.toInt (show gi u 6 = (gi u 6) from rfl)).trans rfl); have q7 := (show (gi u 7).toInt = ((gi u 7)).toInt from (congrArg Int32.toInt (show gi u 7 = (gi u 7) from rfl)).trans rfl); have q8 := (show (gi u 8).toInt = ((gi u 8)).toInt from (congrArg Int32.toInt (show gi u 8 = (gi u 8) from rfl)).trans rfl); have q9 := (show (gi u 9).toInt = ((gi u 9)).toInt from (congrArg Int32.toInt (show gi u 9 = (gi u 9) from rfl)).trans rfl); have q12 := (show (gi u 12).toInt = ((gi u 12)).toInt from (congrArg Int32.toInt (show gi u 12 = (gi u 12) from rfl)).trans rfl); omega, (Or.inr rfl)⟩⟩ hH
            · have c12 := cEQ (x := (gi u 12)) (y := 0) (X := ((gi u 12)).toInt) (Y := 0) rfl (by decide) c12
              refine lv_iconst (v := 1) hx hb dX10_isRoom_44 (by decide) ?_
              refine lv_goto (tgt := 49) hx hb dX10_isRoom_45 (by decide) ?_
              exact hret _ _ _ _ (1 : Int32) _ dX10_isRoom_49 rfl ⟨hI, Un.rf, ⟨by have q6 := (show (gi u 6).toInt = ((gi u 6)).toInt from (congrArg Int32.toInt (show gi u 6 = (gi u 6) from rfl)).trans rfl); have q7 := (show (gi u 7).toInt = ((gi u 7)).toInt from (congrArg Int32.toInt (show gi u 7 = (gi u 7) from rfl)).trans rfl); have q8 := (show (gi u 8).toInt = ((gi u 8)).toInt from (congrArg Int32.toInt (show gi u 8 = (gi u 8) from rfl)).trans rfl); have q9 := (show (gi u 9).toInt = ((gi u 9)).toInt from (congrArg Int32.toInt (show gi u 9 = (gi u 9) from rfl)).trans rfl); have q12 := (show (gi u 12).toInt = ((gi u 12)).toInt from (congrArg Int32.toInt (show gi u 12 = (gi u 12) from rfl)).trans rfl); omega, by have q6 := (show (gi u 6).toInt = ((gi u 6)).toInt from (congrArg Int32.toInt (show gi u 6 = (gi u 6) from rfl)).trans rfl); have q7 := (show (gi u 7).toInt = ((gi u 7)).toInt from (congrArg Int32.toInt (show gi u 7 = (gi u 7) from rfl)).trans rfl); have q8 := (show (gi u 8).toInt = ((gi u 8)).toInt from (congrArg Int32.toInt (show gi u 8 = (gi u 8) from rfl)).trans rfl); have q9 := (show (gi u 9).toInt = ((gi u 9)).toInt from (congrArg Int32.toInt (show gi u 9 = (gi u 9) from rfl)).trans rfl); have q12 := (show (gi u 12).toInt = ((gi u 12)).toInt from (congrArg Int32.toInt (show gi u 12 = (gi u 12) from rfl)).trans rfl); omega, (Or.inl ⟨rfl, by have q7 : (ga u 7 27).toInt ≤ 6 := (hI.has 27).2; have q6 := (show (ga u 7 27).toInt = ((ga u 7 27)).toInt from (congrArg Int32.toInt (show ga u 7 27 = (ga u 7 27) from rfl)).trans rfl); have q6 := (show (gi u 6).toInt = ((gi u 6)).toInt from (congrArg Int32.toInt (show gi u 6 = (gi u 6) from rfl)).trans rfl); have q7 := (show (gi u 7).toInt = ((gi u 7)).toInt from (congrArg Int32.toInt (show gi u 7 = (gi u 7) from rfl)).trans rfl); have q8 := (show (gi u 8).toInt = ((gi u 8)).toInt from (congrArg Int32.toInt (show gi u 8 = (gi u 8) from rfl)).trans rfl); have q9 := (show (gi u 9).toInt = ((gi u 9)).toInt from (congrArg Int32.toInt (show gi u 9 = (gi u 9) from rfl)).trans rfl); have q12 := (show (gi u 12).toInt = ((gi u 12)).toInt from (congrArg Int32.toInt (show gi u 12 = (gi u 12) from rfl)).trans rfl); omega⟩)⟩⟩ hH
        · have c10 := cEQ (x := (gi u 12)) (y := 0) (X := ((gi u 12)).toInt) (Y := 0) rfl (by decide) c10
          refine lv_aload_n hx hb dX10_isRoom_29 rfl (lv_at hl 0 rfl) ?_
          refine cvU (n := 0) (As := []) (rest := []) ⟨hx, hb, hml, hown, hts⟩ uc_in (kX10_next_0 l D C A u hI (by have q5 := hI.b6; omega) _) q_m1370 q_n1372 q_p55 q_i11 q_c1373 hvX10_next ⟨(Nat.le_of_ble_eq_true rfl), (Nat.le_of_ble_eq_true rfl)⟩ ⟨(Nat.le_of_ble_eq_true rfl), (Nat.le_of_ble_eq_true rfl)⟩ hK hH (fun q h => Or.inr h) Bl0 (fun _ _ _ => trivial) 10 0 rfl (mwc0 C A u) rfl hl.1 rfl (Nat.le_of_ble_eq_true rfl) dX10_isRoom_30 (fun u13 H locs p15 hH => ?_)
          obtain ⟨hI, hUu13, p15⟩ := p15
          refine lv_iload_n hx hb dX10_isRoom_33 rfl (lv_at hl 1 rfl) ?_
          refine lv_if_eq (tgt := 48) hx hb dX10_isRoom_34 (by decide) (fun c16 => ?_) (fun c16 => ?_)
          · have c16 := cEQ (x := a0) (y := 0) (X := A0) (Y := 0) ha0 (by decide) c16
            refine lv_iconst (v := 0) hx hb dX10_isRoom_48 (by decide) ?_
            exact hret _ _ _ _ (0 : Int32) _ dX10_isRoom_49 rfl ⟨hI, (Un.tr Un.rf hUu13 rfl rfl rfl), ⟨by have q6 := (show (gi u13 6).toInt = ((gi u 6)).toInt from (congrArg Int32.toInt (show gi u13 6 = (gi u 6) from ((hUu13.1 6 rfl).trans rfl))).trans rfl); have q7 := (show (gi u13 7).toInt = ((gi u13 7)).toInt from (congrArg Int32.toInt (show gi u13 7 = (gi u13 7) from rfl)).trans rfl); have q8 := (show (gi u13 8).toInt = ((gi u13 8)).toInt from (congrArg Int32.toInt (show gi u13 8 = (gi u13 8) from rfl)).trans rfl); have q9 := (show (gi u13 9).toInt = ((gi u13 9)).toInt from (congrArg Int32.toInt (show gi u13 9 = (gi u13 9) from rfl)).trans rfl); have q12 := (show (gi u13 12).toInt = ((gi u 12)).toInt from (congrArg Int32.toInt (show gi u13 12 = (gi u 12) from ((hUu13.1 12 rfl).trans rfl))).trans rfl); omega, by have q6 := (show (gi u13 6).toInt = ((gi u 6)).toInt from (congrArg Int32.toInt (show gi u13 6 = (gi u 6) from ((hUu13.1 6 rfl).trans rfl))).trans rfl); have q7 := (show (gi u13 7).toInt = ((gi u13 7)).toInt from (congrArg Int32.toInt (show gi u13 7 = (gi u13 7) from rfl)).trans rfl); have q8 := (show (gi u13 8).toInt = ((gi u13 8)).toInt from (congrArg Int32.toInt (show gi u13 8 = (gi u13 8) from rfl)).trans rfl); have q9 := (show (gi u13 9).toInt = ((gi u13 9)).toInt from (congrArg Int32.toInt (show gi u13 9 = (gi u13 9) from rfl)).trans rfl); have q12 := (show (gi u13 12).toInt = ((gi u 12)).toInt from (congrArg Int32.toInt (show gi u13 12 = (gi u 12) from ((hUu13.1 12 rfl).trans rfl))).trans rfl); omega, (Or.inr rfl)⟩⟩ hH
          · have c16 := cNE (x := a0) (y := 0) (X := A0) (Y := 0) ha0 (by decide) c16
            refine lv_aload_n hx hb dX10_isRoom_37 rfl (lv_at hl 0 rfl) ?_
            refine va_get (ci := 10) (v := .int (gi u13 12)) (C := RX10) (T := TX10) (N := 42) hx hb hts (fun w h => uc_in w (inX10 w h)) hown hK hH.1 0 (mwc0 C A u13) rfl 12 (by decide) (hts _ (uc_in _ q_f1200)) (fun _ h9 => h9) rfl dX10_isRoom_38 ?_
            refine pv_i (v := (gi u 12)) ((hUu13.1 12 rfl).trans rfl) ?_
            refine lv_if_ne (tgt := 48) hx hb dX10_isRoom_41 (by decide) (fun c17 => absurd (cNE (x := (gi u 12)) (y := 0) (X := ((gi u 12)).toInt) (Y := 0) rfl (by decide) c17) (by omega)) (fun c17 => ?_)
            have c17 := cEQ (x := (gi u 12)) (y := 0) (X := ((gi u 12)).toInt) (Y := 0) rfl (by decide) c17
            refine lv_iconst (v := 1) hx hb dX10_isRoom_44 (by decide) ?_
            refine lv_goto (tgt := 49) hx hb dX10_isRoom_45 (by decide) ?_
            exact hret _ _ _ _ (1 : Int32) _ dX10_isRoom_49 rfl ⟨hI, (Un.tr Un.rf hUu13 rfl rfl rfl), ⟨by have q6 := (show (gi u13 6).toInt = ((gi u 6)).toInt from (congrArg Int32.toInt (show gi u13 6 = (gi u 6) from ((hUu13.1 6 rfl).trans rfl))).trans rfl); have q7 := (show (gi u13 7).toInt = ((gi u13 7)).toInt from (congrArg Int32.toInt (show gi u13 7 = (gi u13 7) from rfl)).trans rfl); have q8 := (show (gi u13 8).toInt = ((gi u13 8)).toInt from (congrArg Int32.toInt (show gi u13 8 = (gi u13 8) from rfl)).trans rfl); have q9 := (show (gi u13 9).toInt = ((gi u13 9)).toInt from (congrArg Int32.toInt (show gi u13 9 = (gi u13 9) from rfl)).trans rfl); have q12 := (show (gi u13 12).toInt = ((gi u 12)).toInt from (congrArg Int32.toInt (show gi u13 12 = (gi u 12) from ((hUu13.1 12 rfl).trans rfl))).trans rfl); omega, by have q6 := (show (gi u13 6).toInt = ((gi u 6)).toInt from (congrArg Int32.toInt (show gi u13 6 = (gi u 6) from ((hUu13.1 6 rfl).trans rfl))).trans rfl); have q7 := (show (gi u13 7).toInt = ((gi u13 7)).toInt from (congrArg Int32.toInt (show gi u13 7 = (gi u13 7) from rfl)).trans rfl); have q8 := (show (gi u13 8).toInt = ((gi u13 8)).toInt from (congrArg Int32.toInt (show gi u13 8 = (gi u13 8) from rfl)).trans rfl); have q9 := (show (gi u13 9).toInt = ((gi u13 9)).toInt from (congrArg Int32.toInt (show gi u13 9 = (gi u13 9) from rfl)).trans rfl); have q12 := (show (gi u13 12).toInt = ((gi u 12)).toInt from (congrArg Int32.toInt (show gi u13 12 = (gi u 12) from ((hUu13.1 12 rfl).trans rfl))).trans rfl); omega, (Or.inl ⟨rfl, by have q7 : (ga u13 7 27).toInt ≤ 6 := (hI.has 27).2; have q6 := (show (ga u13 7 27).toInt = ((ga u 7 27)).toInt from (congrArg Int32.toInt (show ga u13 7 27 = (ga u 7 27) from ((congrFun (hUu13.2.1 7 rfl) _).trans rfl))).trans rfl); have q6 := (show (gi u13 6).toInt = ((gi u 6)).toInt from (congrArg Int32.toInt (show gi u13 6 = (gi u 6) from ((hUu13.1 6 rfl).trans rfl))).trans rfl); have q7 := (show (gi u13 7).toInt = ((gi u13 7)).toInt from (congrArg Int32.toInt (show gi u13 7 = (gi u13 7) from rfl)).trans rfl); have q8 := (show (gi u13 8).toInt = ((gi u13 8)).toInt from (congrArg Int32.toInt (show gi u13 8 = (gi u13 8) from rfl)).trans rfl); have q9 := (show (gi u13 9).toInt = ((gi u13 9)).toInt from (congrArg Int32.toInt (show gi u13 9 = (gi u13 9) from rfl)).trans rfl); have q12 := (show (gi u13 12).toInt = ((gi u 12)).toInt from (congrArg Int32.toInt (show gi u13 12 = (gi u 12) from ((hUu13.1 12 rfl).trans rfl))).trans rfl); omega⟩)⟩⟩ hH
    · have c7 := cEQ (x := (ga u 7 27)) (y := 6) (X := ((ga u 7 27)).toInt) (Y := 6) rfl (by decide) c7
      refine lv_aload_n hx hb dX10_isRoom_13 rfl (lv_at hl 0 rfl) ?_
      refine lv_iconst (v := 3) hx hb dX10_isRoom_14 (by decide) ?_
      refine cvU (n := 1) (As := [.int 3]) (rest := []) ⟨hx, hb, hml, hown, hts⟩ uc_in (kX10_fails_0 l D C A u hI  _) q_m1400 q_n1402 q_p61 q_i11 q_c1403 hvX10_fails ⟨(Nat.le_of_ble_eq_true rfl), (Nat.le_of_ble_eq_true rfl)⟩ ⟨(Nat.le_of_ble_eq_true rfl), (Nat.le_of_ble_eq_true rfl)⟩ hK hH (fun q h => Or.inr h) Bl0 (fun _ _ _ => trivial) 10 0 rfl (mwc0 C A u) rfl hl.1 rfl (Nat.le_of_ble_eq_true rfl) dX10_isRoom_15 (fun u18 H locs p20 hH => ?_)
      obtain ⟨hI, hUu18, p20⟩ := p20
      refine lv_iload_n hx hb dX10_isRoom_18 rfl (lv_at hl 1 rfl) ?_
      refine lv_if_eq (tgt := 33) hx hb dX10_isRoom_19 (by decide) (fun c21 => ?_) (fun c21 => ?_)
      · have c21 := cEQ (x := a0) (y := 0) (X := A0) (Y := 0) ha0 (by decide) c21
        refine lv_iload_n hx hb dX10_isRoom_33 rfl (lv_at hl 1 rfl) ?_
        refine lv_if_eq (tgt := 48) hx hb dX10_isRoom_34 (by decide) (fun c22 => ?_) (fun c22 => absurd (cNE (x := a0) (y := 0) (X := A0) (Y := 0) ha0 (by decide) c22) (by omega))
        have c22 := cEQ (x := a0) (y := 0) (X := A0) (Y := 0) ha0 (by decide) c22
        refine lv_iconst (v := 0) hx hb dX10_isRoom_48 (by decide) ?_
        exact hret _ _ _ _ (0 : Int32) _ dX10_isRoom_49 rfl ⟨hI, (Un.tr Un.rf hUu18 rfl rfl rfl), ⟨by have q6 := (show (gi u18 6).toInt = ((gi u 6)).toInt from (congrArg Int32.toInt (show gi u18 6 = (gi u 6) from ((hUu18.1 6 rfl).trans rfl))).trans rfl); have q7 := (show (gi u18 7).toInt = ((gi u 7)).toInt from (congrArg Int32.toInt (show gi u18 7 = (gi u 7) from ((hUu18.1 7 rfl).trans rfl))).trans rfl); have q8 := (show (gi u18 8).toInt = ((gi u 8)).toInt from (congrArg Int32.toInt (show gi u18 8 = (gi u 8) from ((hUu18.1 8 rfl).trans rfl))).trans rfl); have q9 := (show (gi u18 9).toInt = ((gi u 9)).toInt from (congrArg Int32.toInt (show gi u18 9 = (gi u 9) from ((hUu18.1 9 rfl).trans rfl))).trans rfl); have q12 := (show (gi u18 12).toInt = ((gi u18 12)).toInt from (congrArg Int32.toInt (show gi u18 12 = (gi u18 12) from rfl)).trans rfl); omega, by have q6 := (show (gi u18 6).toInt = ((gi u 6)).toInt from (congrArg Int32.toInt (show gi u18 6 = (gi u 6) from ((hUu18.1 6 rfl).trans rfl))).trans rfl); have q7 := (show (gi u18 7).toInt = ((gi u 7)).toInt from (congrArg Int32.toInt (show gi u18 7 = (gi u 7) from ((hUu18.1 7 rfl).trans rfl))).trans rfl); have q8 := (show (gi u18 8).toInt = ((gi u 8)).toInt from (congrArg Int32.toInt (show gi u18 8 = (gi u 8) from ((hUu18.1 8 rfl).trans rfl))).trans rfl); have q9 := (show (gi u18 9).toInt = ((gi u 9)).toInt from (congrArg Int32.toInt (show gi u18 9 = (gi u 9) from ((hUu18.1 9 rfl).trans rfl))).trans rfl); have q12 := (show (gi u18 12).toInt = ((gi u18 12)).toInt from (congrArg Int32.toInt (show gi u18 12 = (gi u18 12) from rfl)).trans rfl); omega, (Or.inr rfl)⟩⟩ hH
      · have c21 := cNE (x := a0) (y := 0) (X := A0) (Y := 0) ha0 (by decide) c21
        refine lv_aload_n hx hb dX10_isRoom_22 rfl (lv_at hl 0 rfl) ?_
        refine va_get (ci := 10) (v := .int (gi u18 12)) (C := RX10) (T := TX10) (N := 42) hx hb hts (fun w h => uc_in w (inX10 w h)) hown hK hH.1 0 (mwc0 C A u18) rfl 12 (by decide) (hts _ (uc_in _ q_f1200)) (fun _ h9 => h9) rfl dX10_isRoom_23 ?_
        refine lv_if_ne (tgt := 33) hx hb dX10_isRoom_26 (by decide) (fun c23 => ?_) (fun c23 => ?_)
        · have c23 := cNE (x := (gi u18 12)) (y := 0) (X := ((gi u18 12)).toInt) (Y := 0) rfl (by decide) c23
          refine lv_iload_n hx hb dX10_isRoom_33 rfl (lv_at hl 1 rfl) ?_
          refine lv_if_eq (tgt := 48) hx hb dX10_isRoom_34 (by decide) (fun c24 => ?_) (fun c24 => ?_)
          · have c24 := cEQ (x := a0) (y := 0) (X := A0) (Y := 0) ha0 (by decide) c24
            refine lv_iconst (v := 0) hx hb dX10_isRoom_48 (by decide) ?_
            exact hret _ _ _ _ (0 : Int32) _ dX10_isRoom_49 rfl ⟨hI, (Un.tr Un.rf hUu18 rfl rfl rfl), ⟨by have q6 := (show (gi u18 6).toInt = ((gi u 6)).toInt from (congrArg Int32.toInt (show gi u18 6 = (gi u 6) from ((hUu18.1 6 rfl).trans rfl))).trans rfl); have q7 := (show (gi u18 7).toInt = ((gi u 7)).toInt from (congrArg Int32.toInt (show gi u18 7 = (gi u 7) from ((hUu18.1 7 rfl).trans rfl))).trans rfl); have q8 := (show (gi u18 8).toInt = ((gi u 8)).toInt from (congrArg Int32.toInt (show gi u18 8 = (gi u 8) from ((hUu18.1 8 rfl).trans rfl))).trans rfl); have q9 := (show (gi u18 9).toInt = ((gi u 9)).toInt from (congrArg Int32.toInt (show gi u18 9 = (gi u 9) from ((hUu18.1 9 rfl).trans rfl))).trans rfl); have q12 := (show (gi u18 12).toInt = ((gi u18 12)).toInt from (congrArg Int32.toInt (show gi u18 12 = (gi u18 12) from rfl)).trans rfl); omega, by have q6 := (show (gi u18 6).toInt = ((gi u 6)).toInt from (congrArg Int32.toInt (show gi u18 6 = (gi u 6) from ((hUu18.1 6 rfl).trans rfl))).trans rfl); have q7 := (show (gi u18 7).toInt = ((gi u 7)).toInt from (congrArg Int32.toInt (show gi u18 7 = (gi u 7) from ((hUu18.1 7 rfl).trans rfl))).trans rfl); have q8 := (show (gi u18 8).toInt = ((gi u 8)).toInt from (congrArg Int32.toInt (show gi u18 8 = (gi u 8) from ((hUu18.1 8 rfl).trans rfl))).trans rfl); have q9 := (show (gi u18 9).toInt = ((gi u 9)).toInt from (congrArg Int32.toInt (show gi u18 9 = (gi u 9) from ((hUu18.1 9 rfl).trans rfl))).trans rfl); have q12 := (show (gi u18 12).toInt = ((gi u18 12)).toInt from (congrArg Int32.toInt (show gi u18 12 = (gi u18 12) from rfl)).trans rfl); omega, (Or.inr rfl)⟩⟩ hH
          · have c24 := cNE (x := a0) (y := 0) (X := A0) (Y := 0) ha0 (by decide) c24
            refine lv_aload_n hx hb dX10_isRoom_37 rfl (lv_at hl 0 rfl) ?_
            refine va_get (ci := 10) (v := .int (gi u18 12)) (C := RX10) (T := TX10) (N := 42) hx hb hts (fun w h => uc_in w (inX10 w h)) hown hK hH.1 0 (mwc0 C A u18) rfl 12 (by decide) (hts _ (uc_in _ q_f1200)) (fun _ h9 => h9) rfl dX10_isRoom_38 ?_
            refine lv_if_ne (tgt := 48) hx hb dX10_isRoom_41 (by decide) (fun c25 => ?_) (fun c25 => ?_)
            · have c25 := cNE (x := (gi u18 12)) (y := 0) (X := ((gi u18 12)).toInt) (Y := 0) rfl (by decide) c25
              refine lv_iconst (v := 0) hx hb dX10_isRoom_48 (by decide) ?_
              exact hret _ _ _ _ (0 : Int32) _ dX10_isRoom_49 rfl ⟨hI, (Un.tr Un.rf hUu18 rfl rfl rfl), ⟨by have q6 := (show (gi u18 6).toInt = ((gi u 6)).toInt from (congrArg Int32.toInt (show gi u18 6 = (gi u 6) from ((hUu18.1 6 rfl).trans rfl))).trans rfl); have q7 := (show (gi u18 7).toInt = ((gi u 7)).toInt from (congrArg Int32.toInt (show gi u18 7 = (gi u 7) from ((hUu18.1 7 rfl).trans rfl))).trans rfl); have q8 := (show (gi u18 8).toInt = ((gi u 8)).toInt from (congrArg Int32.toInt (show gi u18 8 = (gi u 8) from ((hUu18.1 8 rfl).trans rfl))).trans rfl); have q9 := (show (gi u18 9).toInt = ((gi u 9)).toInt from (congrArg Int32.toInt (show gi u18 9 = (gi u 9) from ((hUu18.1 9 rfl).trans rfl))).trans rfl); have q12 := (show (gi u18 12).toInt = ((gi u18 12)).toInt from (congrArg Int32.toInt (show gi u18 12 = (gi u18 12) from rfl)).trans rfl); omega, by have q6 := (show (gi u18 6).toInt = ((gi u 6)).toInt from (congrArg Int32.toInt (show gi u18 6 = (gi u 6) from ((hUu18.1 6 rfl).trans rfl))).trans rfl); have q7 := (show (gi u18 7).toInt = ((gi u 7)).toInt from (congrArg Int32.toInt (show gi u18 7 = (gi u 7) from ((hUu18.1 7 rfl).trans rfl))).trans rfl); have q8 := (show (gi u18 8).toInt = ((gi u 8)).toInt from (congrArg Int32.toInt (show gi u18 8 = (gi u 8) from ((hUu18.1 8 rfl).trans rfl))).trans rfl); have q9 := (show (gi u18 9).toInt = ((gi u 9)).toInt from (congrArg Int32.toInt (show gi u18 9 = (gi u 9) from ((hUu18.1 9 rfl).trans rfl))).trans rfl); have q12 := (show (gi u18 12).toInt = ((gi u18 12)).toInt from (congrArg Int32.toInt (show gi u18 12 = (gi u18 12) from rfl)).trans rfl); omega, (Or.inr rfl)⟩⟩ hH
            · have c25 := cEQ (x := (gi u18 12)) (y := 0) (X := ((gi u18 12)).toInt) (Y := 0) rfl (by decide) c25
              refine lv_iconst (v := 1) hx hb dX10_isRoom_44 (by decide) ?_
              refine lv_goto (tgt := 49) hx hb dX10_isRoom_45 (by decide) ?_
              exact hret _ _ _ _ (1 : Int32) _ dX10_isRoom_49 rfl ⟨hI, (Un.tr Un.rf hUu18 rfl rfl rfl), ⟨by have q6 := (show (gi u18 6).toInt = ((gi u 6)).toInt from (congrArg Int32.toInt (show gi u18 6 = (gi u 6) from ((hUu18.1 6 rfl).trans rfl))).trans rfl); have q7 := (show (gi u18 7).toInt = ((gi u 7)).toInt from (congrArg Int32.toInt (show gi u18 7 = (gi u 7) from ((hUu18.1 7 rfl).trans rfl))).trans rfl); have q8 := (show (gi u18 8).toInt = ((gi u 8)).toInt from (congrArg Int32.toInt (show gi u18 8 = (gi u 8) from ((hUu18.1 8 rfl).trans rfl))).trans rfl); have q9 := (show (gi u18 9).toInt = ((gi u 9)).toInt from (congrArg Int32.toInt (show gi u18 9 = (gi u 9) from ((hUu18.1 9 rfl).trans rfl))).trans rfl); have q12 := (show (gi u18 12).toInt = ((gi u18 12)).toInt from (congrArg Int32.toInt (show gi u18 12 = (gi u18 12) from rfl)).trans rfl); omega, by have q6 := (show (gi u18 6).toInt = ((gi u 6)).toInt from (congrArg Int32.toInt (show gi u18 6 = (gi u 6) from ((hUu18.1 6 rfl).trans rfl))).trans rfl); have q7 := (show (gi u18 7).toInt = ((gi u 7)).toInt from (congrArg Int32.toInt (show gi u18 7 = (gi u 7) from ((hUu18.1 7 rfl).trans rfl))).trans rfl); have q8 := (show (gi u18 8).toInt = ((gi u 8)).toInt from (congrArg Int32.toInt (show gi u18 8 = (gi u 8) from ((hUu18.1 8 rfl).trans rfl))).trans rfl); have q9 := (show (gi u18 9).toInt = ((gi u 9)).toInt from (congrArg Int32.toInt (show gi u18 9 = (gi u 9) from ((hUu18.1 9 rfl).trans rfl))).trans rfl); have q12 := (show (gi u18 12).toInt = ((gi u18 12)).toInt from (congrArg Int32.toInt (show gi u18 12 = (gi u18 12) from rfl)).trans rfl); omega, (Or.inl ⟨rfl, by have q7 : (ga u18 7 27).toInt ≤ 6 := (hI.has 27).2; have q6 := (show (ga u18 7 27).toInt = ((ga u 7 27)).toInt from (congrArg Int32.toInt (show ga u18 7 27 = (ga u 7 27) from ((congrFun (hUu18.2.1 7 rfl) _).trans rfl))).trans rfl); have q6 := (show (gi u18 6).toInt = ((gi u 6)).toInt from (congrArg Int32.toInt (show gi u18 6 = (gi u 6) from ((hUu18.1 6 rfl).trans rfl))).trans rfl); have q7 := (show (gi u18 7).toInt = ((gi u 7)).toInt from (congrArg Int32.toInt (show gi u18 7 = (gi u 7) from ((hUu18.1 7 rfl).trans rfl))).trans rfl); have q8 := (show (gi u18 8).toInt = ((gi u 8)).toInt from (congrArg Int32.toInt (show gi u18 8 = (gi u 8) from ((hUu18.1 8 rfl).trans rfl))).trans rfl); have q9 := (show (gi u18 9).toInt = ((gi u 9)).toInt from (congrArg Int32.toInt (show gi u18 9 = (gi u 9) from ((hUu18.1 9 rfl).trans rfl))).trans rfl); have q12 := (show (gi u18 12).toInt = ((gi u18 12)).toInt from (congrArg Int32.toInt (show gi u18 12 = (gi u18 12) from rfl)).trans rfl); omega⟩)⟩⟩ hH
        · have c23 := cEQ (x := (gi u18 12)) (y := 0) (X := ((gi u18 12)).toInt) (Y := 0) rfl (by decide) c23
          refine lv_aload_n hx hb dX10_isRoom_29 rfl (lv_at hl 0 rfl) ?_
          have q26 := (show (gi u18 6).toInt = ((gi u 6)).toInt from (congrArg Int32.toInt (show gi u18 6 = (gi u 6) from ((hUu18.1 6 rfl).trans rfl))).trans rfl)
          have q27 := (show (gi u18 7).toInt = ((gi u 7)).toInt from (congrArg Int32.toInt (show gi u18 7 = (gi u 7) from ((hUu18.1 7 rfl).trans rfl))).trans rfl)
          have q28 := (show (gi u18 8).toInt = ((gi u 8)).toInt from (congrArg Int32.toInt (show gi u18 8 = (gi u 8) from ((hUu18.1 8 rfl).trans rfl))).trans rfl)
          have q29 := (show (gi u18 9).toInt = ((gi u 9)).toInt from (congrArg Int32.toInt (show gi u18 9 = (gi u 9) from ((hUu18.1 9 rfl).trans rfl))).trans rfl)
          refine cvU (n := 0) (As := []) (rest := []) ⟨hx, hb, hml, hown, hts⟩ uc_in (kX10_next_0 l D C A u18 hI (by have q5 := hI.b6; omega) _) q_m1370 q_n1372 q_p55 q_i11 q_c1373 hvX10_next ⟨(Nat.le_of_ble_eq_true rfl), (Nat.le_of_ble_eq_true rfl)⟩ ⟨(Nat.le_of_ble_eq_true rfl), (Nat.le_of_ble_eq_true rfl)⟩ hK hH (fun q h => Or.inr h) Bl0 (fun _ _ _ => trivial) 10 0 rfl (mwc0 C A u18) rfl hl.1 rfl (Nat.le_of_ble_eq_true rfl) dX10_isRoom_30 (fun u30 H locs p32 hH => ?_)
          obtain ⟨hI, hUu30, p32⟩ := p32
          refine lv_iload_n hx hb dX10_isRoom_33 rfl (lv_at hl 1 rfl) ?_
          refine lv_if_eq (tgt := 48) hx hb dX10_isRoom_34 (by decide) (fun c33 => ?_) (fun c33 => ?_)
          · have c33 := cEQ (x := a0) (y := 0) (X := A0) (Y := 0) ha0 (by decide) c33
            refine lv_iconst (v := 0) hx hb dX10_isRoom_48 (by decide) ?_
            exact hret _ _ _ _ (0 : Int32) _ dX10_isRoom_49 rfl ⟨hI, (Un.tr (Un.tr Un.rf hUu18 rfl rfl rfl) hUu30 rfl rfl rfl), ⟨by have q6 := (show (gi u30 6).toInt = ((gi u 6)).toInt from (congrArg Int32.toInt (show gi u30 6 = (gi u 6) from ((hUu30.1 6 rfl).trans ((hUu18.1 6 rfl).trans rfl)))).trans rfl); have q7 := (show (gi u30 7).toInt = ((gi u30 7)).toInt from (congrArg Int32.toInt (show gi u30 7 = (gi u30 7) from rfl)).trans rfl); have q8 := (show (gi u30 8).toInt = ((gi u30 8)).toInt from (congrArg Int32.toInt (show gi u30 8 = (gi u30 8) from rfl)).trans rfl); have q9 := (show (gi u30 9).toInt = ((gi u30 9)).toInt from (congrArg Int32.toInt (show gi u30 9 = (gi u30 9) from rfl)).trans rfl); have q12 := (show (gi u30 12).toInt = ((gi u18 12)).toInt from (congrArg Int32.toInt (show gi u30 12 = (gi u18 12) from ((hUu30.1 12 rfl).trans rfl))).trans rfl); omega, by have q6 := (show (gi u30 6).toInt = ((gi u 6)).toInt from (congrArg Int32.toInt (show gi u30 6 = (gi u 6) from ((hUu30.1 6 rfl).trans ((hUu18.1 6 rfl).trans rfl)))).trans rfl); have q7 := (show (gi u30 7).toInt = ((gi u30 7)).toInt from (congrArg Int32.toInt (show gi u30 7 = (gi u30 7) from rfl)).trans rfl); have q8 := (show (gi u30 8).toInt = ((gi u30 8)).toInt from (congrArg Int32.toInt (show gi u30 8 = (gi u30 8) from rfl)).trans rfl); have q9 := (show (gi u30 9).toInt = ((gi u30 9)).toInt from (congrArg Int32.toInt (show gi u30 9 = (gi u30 9) from rfl)).trans rfl); have q12 := (show (gi u30 12).toInt = ((gi u18 12)).toInt from (congrArg Int32.toInt (show gi u30 12 = (gi u18 12) from ((hUu30.1 12 rfl).trans rfl))).trans rfl); omega, (Or.inr rfl)⟩⟩ hH
          · have c33 := cNE (x := a0) (y := 0) (X := A0) (Y := 0) ha0 (by decide) c33
            refine lv_aload_n hx hb dX10_isRoom_37 rfl (lv_at hl 0 rfl) ?_
            refine va_get (ci := 10) (v := .int (gi u30 12)) (C := RX10) (T := TX10) (N := 42) hx hb hts (fun w h => uc_in w (inX10 w h)) hown hK hH.1 0 (mwc0 C A u30) rfl 12 (by decide) (hts _ (uc_in _ q_f1200)) (fun _ h9 => h9) rfl dX10_isRoom_38 ?_
            refine pv_i (v := (gi u18 12)) ((hUu30.1 12 rfl).trans rfl) ?_
            refine lv_if_ne (tgt := 48) hx hb dX10_isRoom_41 (by decide) (fun c34 => absurd (cNE (x := (gi u18 12)) (y := 0) (X := ((gi u18 12)).toInt) (Y := 0) rfl (by decide) c34) (by omega)) (fun c34 => ?_)
            have c34 := cEQ (x := (gi u18 12)) (y := 0) (X := ((gi u18 12)).toInt) (Y := 0) rfl (by decide) c34
            refine lv_iconst (v := 1) hx hb dX10_isRoom_44 (by decide) ?_
            refine lv_goto (tgt := 49) hx hb dX10_isRoom_45 (by decide) ?_
            exact hret _ _ _ _ (1 : Int32) _ dX10_isRoom_49 rfl ⟨hI, (Un.tr (Un.tr Un.rf hUu18 rfl rfl rfl) hUu30 rfl rfl rfl), ⟨by have q6 := (show (gi u30 6).toInt = ((gi u 6)).toInt from (congrArg Int32.toInt (show gi u30 6 = (gi u 6) from ((hUu30.1 6 rfl).trans ((hUu18.1 6 rfl).trans rfl)))).trans rfl); have q7 := (show (gi u30 7).toInt = ((gi u30 7)).toInt from (congrArg Int32.toInt (show gi u30 7 = (gi u30 7) from rfl)).trans rfl); have q8 := (show (gi u30 8).toInt = ((gi u30 8)).toInt from (congrArg Int32.toInt (show gi u30 8 = (gi u30 8) from rfl)).trans rfl); have q9 := (show (gi u30 9).toInt = ((gi u30 9)).toInt from (congrArg Int32.toInt (show gi u30 9 = (gi u30 9) from rfl)).trans rfl); have q12 := (show (gi u30 12).toInt = ((gi u18 12)).toInt from (congrArg Int32.toInt (show gi u30 12 = (gi u18 12) from ((hUu30.1 12 rfl).trans rfl))).trans rfl); omega, by have q6 := (show (gi u30 6).toInt = ((gi u 6)).toInt from (congrArg Int32.toInt (show gi u30 6 = (gi u 6) from ((hUu30.1 6 rfl).trans ((hUu18.1 6 rfl).trans rfl)))).trans rfl); have q7 := (show (gi u30 7).toInt = ((gi u30 7)).toInt from (congrArg Int32.toInt (show gi u30 7 = (gi u30 7) from rfl)).trans rfl); have q8 := (show (gi u30 8).toInt = ((gi u30 8)).toInt from (congrArg Int32.toInt (show gi u30 8 = (gi u30 8) from rfl)).trans rfl); have q9 := (show (gi u30 9).toInt = ((gi u30 9)).toInt from (congrArg Int32.toInt (show gi u30 9 = (gi u30 9) from rfl)).trans rfl); have q12 := (show (gi u30 12).toInt = ((gi u18 12)).toInt from (congrArg Int32.toInt (show gi u30 12 = (gi u18 12) from ((hUu30.1 12 rfl).trans rfl))).trans rfl); omega, (Or.inl ⟨rfl, by have q7 : (ga u30 7 27).toInt ≤ 6 := (hI.has 27).2; have q6 := (show (ga u30 7 27).toInt = ((ga u 7 27)).toInt from (congrArg Int32.toInt (show ga u30 7 27 = (ga u 7 27) from ((congrFun (hUu30.2.1 7 rfl) _).trans ((congrFun (hUu18.2.1 7 rfl) _).trans rfl)))).trans rfl); have q6 := (show (gi u30 6).toInt = ((gi u 6)).toInt from (congrArg Int32.toInt (show gi u30 6 = (gi u 6) from ((hUu30.1 6 rfl).trans ((hUu18.1 6 rfl).trans rfl)))).trans rfl); have q7 := (show (gi u30 7).toInt = ((gi u30 7)).toInt from (congrArg Int32.toInt (show gi u30 7 = (gi u30 7) from rfl)).trans rfl); have q8 := (show (gi u30 8).toInt = ((gi u30 8)).toInt from (congrArg Int32.toInt (show gi u30 8 = (gi u30 8) from rfl)).trans rfl); have q9 := (show (gi u30 9).toInt = ((gi u30 9)).toInt from (congrArg Int32.toInt (show gi u30 9 = (gi u30 9) from rfl)).trans rfl); have q12 := (show (gi u30 12).toInt = ((gi u18 12)).toInt from (congrArg Int32.toInt (show gi u30 12 = (gi u18 12) from ((hUu30.1 12 rfl).trans rfl))).trans rfl); omega⟩)⟩⟩ hH
set_option maxHeartbeats 4000000 in
set_option maxRecDepth 100000 in
theorem kX10_takes_0 (l : Launch) (D : va_G) (C : Nat → ClassId) (A : Nat → Nat) (u : St) (hI : IM u) (a0 : Int64) (A0 : Int) (ha0 : a0.toInt = A0) (hPI : (gi u 9).toInt ≤ (gi u 7).toInt ∧ (gi u 7).toInt ≤ (gi u 6).toInt ∧ ((gi u 8).toInt = 0 ∨ (gi u 9).toInt < (gi u 7).toInt)) (sz : Nat) : MetI l yX10_takes cX10_takes 3 (some .boolean) 3 [.ref (A 0), .long a0] D (tyl C) (mw C A) X0 u sz (fun r u' => IM u' ∧ Un [(7, 7), (8, 8), (9, 9), (10, 10)] [] [] u u' ∧ (((gi u' 9).toInt ≤ (gi u' 7).toInt ∧ (gi u' 7).toInt ≤ (gi u 6).toInt ∧ ((gi u' 8).toInt = 0 ∨ (gi u' 9).toInt < (gi u' 7).toInt)) ∧ (gi u 9).toInt ≤ (gi u' 9).toInt ∧ (0 ≤ r.toInt ∧ r.toInt ≤ 1))) := by
  refine mI (by decide) (Nat.le_of_ble_eq_true rfl) ?_
  intro p e s m below meth c ls ar Q hx hb hml hown hts hK hH hX hl hret
  have hown : s.vm.findClass RX10 = some m.cls := hown
  have hl : lv_has ls 3 [(0, .ref (A 0)), (1, .long a0)] := hl
  refine lv_aload_n hx hb dX10_takes_0 rfl (lv_at hl 0 rfl) ?_
  refine lv_lload_n hx hb dX10_takes_1 rfl (lv_at hl 1 rfl) ?_
  refine cvS (n := 1) (As := [.long a0]) (rest := []) ⟨hx, hb, hml, hown, hts⟩ uc_in (kX10_is_0 l D C A u hI a0 A0 ha0) q_m1396 q_n1398 q_p60 q_i11 q_c1399 hvX10_is ⟨(Nat.le_of_ble_eq_true rfl), (Nat.le_of_ble_eq_true rfl)⟩ ⟨(Nat.le_of_ble_eq_true rfl), (Nat.le_of_ble_eq_true rfl)⟩ hK hH.1 10 0 rfl (mwc0 C A u) rfl hl.1 rfl (Nat.le_of_ble_eq_true rfl) dX10_takes_2 (fun r1 p2 => ?_)
  have p2 : 0 ≤ r1.toInt ∧ r1.toInt ≤ 1 := p2
  refine lv_if_ne (tgt := 10) hx hb dX10_takes_5 (by decide) (fun c3 => ?_) (fun c3 => ?_)
  · have c3 := cNE (x := r1) (y := 0) (X := r1.toInt) (Y := 0) rfl (by decide) c3
    refine lv_aload_n hx hb dX10_takes_10 rfl (lv_at hl 0 rfl) ?_
    refine cvU (n := 0) (As := []) (rest := []) ⟨hx, hb, hml, hown, hts⟩ uc_in (kX10_next_0 l D C A u hI (by have q5 := hI.b6; omega) _) q_m1370 q_n1372 q_p55 q_i11 q_c1373 hvX10_next ⟨(Nat.le_of_ble_eq_true rfl), (Nat.le_of_ble_eq_true rfl)⟩ ⟨(Nat.le_of_ble_eq_true rfl), (Nat.le_of_ble_eq_true rfl)⟩ hK hH (fun q h => Or.inr h) Bl0 (fun _ _ _ => trivial) 10 0 rfl (mwc0 C A u) rfl hl.1 rfl (Nat.le_of_ble_eq_true rfl) dX10_takes_11 (fun u4 H locs p6 hH => ?_)
    obtain ⟨hI, hUu4, p6⟩ := p6
    refine lv_iconst (v := 1) hx hb dX10_takes_14 (by decide) ?_
    exact hret _ _ _ _ (1 : Int32) _ dX10_takes_15 rfl ⟨hI, (Un.tr Un.rf hUu4 rfl rfl rfl), ⟨by have q6 := (show (gi u4 6).toInt = ((gi u 6)).toInt from (congrArg Int32.toInt (show gi u4 6 = (gi u 6) from ((hUu4.1 6 rfl).trans rfl))).trans rfl); have q7 := (show (gi u4 7).toInt = ((gi u4 7)).toInt from (congrArg Int32.toInt (show gi u4 7 = (gi u4 7) from rfl)).trans rfl); have q8 := (show (gi u4 8).toInt = ((gi u4 8)).toInt from (congrArg Int32.toInt (show gi u4 8 = (gi u4 8) from rfl)).trans rfl); have q9 := (show (gi u4 9).toInt = ((gi u4 9)).toInt from (congrArg Int32.toInt (show gi u4 9 = (gi u4 9) from rfl)).trans rfl); have q12 := (show (gi u4 12).toInt = ((gi u 12)).toInt from (congrArg Int32.toInt (show gi u4 12 = (gi u 12) from ((hUu4.1 12 rfl).trans rfl))).trans rfl); omega, by have q6 := (show (gi u4 6).toInt = ((gi u 6)).toInt from (congrArg Int32.toInt (show gi u4 6 = (gi u 6) from ((hUu4.1 6 rfl).trans rfl))).trans rfl); have q7 := (show (gi u4 7).toInt = ((gi u4 7)).toInt from (congrArg Int32.toInt (show gi u4 7 = (gi u4 7) from rfl)).trans rfl); have q8 := (show (gi u4 8).toInt = ((gi u4 8)).toInt from (congrArg Int32.toInt (show gi u4 8 = (gi u4 8) from rfl)).trans rfl); have q9 := (show (gi u4 9).toInt = ((gi u4 9)).toInt from (congrArg Int32.toInt (show gi u4 9 = (gi u4 9) from rfl)).trans rfl); have q12 := (show (gi u4 12).toInt = ((gi u 12)).toInt from (congrArg Int32.toInt (show gi u4 12 = (gi u 12) from ((hUu4.1 12 rfl).trans rfl))).trans rfl); omega, ⟨by decide, by decide⟩⟩⟩ hH
  · have c3 := cEQ (x := r1) (y := 0) (X := r1.toInt) (Y := 0) rfl (by decide) c3
    refine lv_iconst (v := 0) hx hb dX10_takes_8 (by decide) ?_
    exact hret _ _ _ _ (0 : Int32) _ dX10_takes_9 rfl ⟨hI, Un.rf, ⟨by have q6 := (show (gi u 6).toInt = ((gi u 6)).toInt from (congrArg Int32.toInt (show gi u 6 = (gi u 6) from rfl)).trans rfl); have q7 := (show (gi u 7).toInt = ((gi u 7)).toInt from (congrArg Int32.toInt (show gi u 7 = (gi u 7) from rfl)).trans rfl); have q8 := (show (gi u 8).toInt = ((gi u 8)).toInt from (congrArg Int32.toInt (show gi u 8 = (gi u 8) from rfl)).trans rfl); have q9 := (show (gi u 9).toInt = ((gi u 9)).toInt from (congrArg Int32.toInt (show gi u 9 = (gi u 9) from rfl)).trans rfl); have q12 := (show (gi u 12).toInt = ((gi u 12)).toInt from (congrArg Int32.toInt (show gi u 12 = (gi u 12) from rfl)).trans rfl); omega, by have q6 := (show (gi u 6).toInt = ((gi u 6)).toInt from (congrArg Int32.toInt (show gi u 6 = (gi u 6) from rfl)).trans rfl); have q7 := (show (gi u 7).toInt = ((gi u 7)).toInt from (congrArg Int32.toInt (show gi u 7 = (gi u 7) from rfl)).trans rfl); have q8 := (show (gi u 8).toInt = ((gi u 8)).toInt from (congrArg Int32.toInt (show gi u 8 = (gi u 8) from rfl)).trans rfl); have q9 := (show (gi u 9).toInt = ((gi u 9)).toInt from (congrArg Int32.toInt (show gi u 9 = (gi u 9) from rfl)).trans rfl); have q12 := (show (gi u 12).toInt = ((gi u 12)).toInt from (congrArg Int32.toInt (show gi u 12 = (gi u 12) from rfl)).trans rfl); omega, ⟨by decide, by decide⟩⟩⟩ hH
set_option maxHeartbeats 4000000 in
set_option maxRecDepth 100000 in
theorem kX10_fails_1 (l : Launch) (D : va_G) (C : Nat → ClassId) (A : Nat → Nat) (u : St) (hI : IM u) (sz : Nat) : MetV l yX10_fails cX10_fails 2 1 [.ref (A 0), .int 1] D (tyl C) (mw C A) X0 u sz (fun u' => IM u' ∧ Un [(12, 12), (13, 13)] [] [] u u' ∧ (gi u' 12).toInt ≠ 0) := by
  refine mV (by decide) (Nat.le_of_ble_eq_true rfl) ?_
  intro p e s m below meth c ls ar Q hx hb hml hown hts hK hH hX hl hret
  have hown : s.vm.findClass RX10 = some m.cls := hown
  have hl : lv_has ls 2 [(0, .ref (A 0)), (1, .int 1)] := hl
  refine lv_aload_n hx hb dX10_fails_0 rfl (lv_at hl 0 rfl) ?_
  refine va_get (ci := 10) (v := .int (gi u 12)) (C := RX10) (T := TX10) (N := 42) hx hb hts (fun w h => uc_in w (inX10 w h)) hown hK hH.1 0 (mwc0 C A u) rfl 12 (by decide) (hts _ (uc_in _ q_f1200)) (fun _ h9 => h9) rfl dX10_fails_1 ?_
  refine lv_if_eq (tgt := 8) hx hb dX10_fails_4 (by decide) (fun c1 => ?_) (fun c1 => ?_)
  · have c1 := cEQ (x := (gi u 12)) (y := 0) (X := ((gi u 12)).toInt) (Y := 0) rfl (by decide) c1
    refine lv_aload_n hx hb dX10_fails_8 rfl (lv_at hl 0 rfl) ?_
    refine lv_iload_n hx hb dX10_fails_9 rfl (lv_at hl 1 rfl) ?_
    refine r_put (j := 12) (ci := 10) (C := RX10) (T := TX10) (N := 42) hx hb hts (fun w h => uc_in w (inX10 w h)) tyX10 tyX10_ok nmX10 hown hK hH 0 (mwc0 C A u) rfl 12 (by decide) (hts _ (uc_in _ q_f1200)) (fun _ h9 => h9) rfl (by decide +kernel) (Nat.le_of_ble_eq_true rfl) (mws12 C A u _) dX10_fails_10 (fun u2 eu2 H locs hH => ?_)
    have hI := hI.pi0 eu2 rfl
    refine lv_aload_n hx hb dX10_fails_13 rfl (lv_at hl 0 rfl) ?_
    refine lv_aload_n hx hb dX10_fails_14 rfl (lv_at hl 0 rfl) ?_
    refine va_get (ci := 10) (v := .int (gi u2 9)) (C := RX10) (T := TX10) (N := 42) hx hb hts (fun w h => uc_in w (inX10 w h)) hown hK hH.1 0 (mwc0 C A u2) rfl 9 (by decide) (hts _ (uc_in _ q_f1197)) (fun _ h9 => h9) rfl dX10_fails_15 ?_
    refine r_put (j := 13) (ci := 10) (C := RX10) (T := TX10) (N := 42) hx hb hts (fun w h => uc_in w (inX10 w h)) tyX10 tyX10_ok nmX10 hown hK hH 0 (mwc0 C A u2) rfl 13 (by decide) (hts _ (uc_in _ q_f1201)) (fun _ h9 => h9) rfl (by decide +kernel) (Nat.le_of_ble_eq_true rfl) (mws13 C A u2 _) dX10_fails_18 (fun u3 eu3 H locs hH => ?_)
    have hI := hI.pi0 eu3 rfl
    exact hret _ _ _ _ _ dX10_fails_21 ⟨hI, (Un.si (Un.si Un.rf rfl eu2) rfl eu3), (by have q12 := (show (gi u3 12).toInt = 1 from (congrArg Int32.toInt (show gi u3 12 = 1 from ((gi_ne eu3 (by decide)).trans (gi_si eu2)))).trans (by decide)); omega)⟩ hH
  · have c1 := cNE (x := (gi u 12)) (y := 0) (X := ((gi u 12)).toInt) (Y := 0) rfl (by decide) c1
    exact hret _ _ _ _ _ dX10_fails_7 ⟨hI, Un.rf, (by have q12 := (show (gi u 12).toInt = ((gi u 12)).toInt from (congrArg Int32.toInt (show gi u 12 = (gi u 12) from rfl)).trans rfl); omega)⟩ hH
set_option maxHeartbeats 4000000 in
set_option maxRecDepth 100000 in
theorem kX10_asks_0 (l : Launch) (D : va_G) (C : Nat → ClassId) (A : Nat → Nat) (u : St) (hI : IM u) (a0 : Int64) (A0 : Int) (ha0 : a0.toInt = A0) (hPI : (gi u 9).toInt ≤ (gi u 7).toInt ∧ (gi u 7).toInt ≤ (gi u 6).toInt ∧ ((gi u 8).toInt = 0 ∨ (gi u 9).toInt < (gi u 7).toInt)) (sz : Nat) : MetV l yX10_asks cX10_asks 3 4 [.ref (A 0), .long a0] D (tyl C) (mw C A) X0 u sz (fun u' => IM u' ∧ Un [(7, 7), (8, 8), (9, 9), (10, 10), (12, 12), (13, 13)] [] [] u u' ∧ ((gi u' 9).toInt ≤ (gi u' 7).toInt ∧ (gi u' 7).toInt ≤ (gi u 6).toInt ∧ ((gi u' 8).toInt = 0 ∨ (gi u' 9).toInt < (gi u' 7).toInt)) ∧ (gi u 9).toInt ≤ (gi u' 9).toInt) := by
  refine mV (by decide) (Nat.le_of_ble_eq_true rfl) ?_
  intro p e s m below meth c ls ar Q hx hb hml hown hts hK hH hX hl hret
  have hown : s.vm.findClass RX10 = some m.cls := hown
  have hl : lv_has ls 3 [(0, .ref (A 0)), (1, .long a0)] := hl
  refine lv_aload_n hx hb dX10_asks_0 rfl (lv_at hl 0 rfl) ?_
  refine lv_lload_n hx hb dX10_asks_1 rfl (lv_at hl 1 rfl) ?_
  refine cvI (n := 1) (As := [.long a0]) (rest := []) ⟨hx, hb, hml, hown, hts⟩ uc_in (kX10_takes_0 l D C A u hI a0 A0 ha0 (by omega) _) q_m1392 q_n1394 q_p59 q_i11 q_c1395 hvX10_takes ⟨(Nat.le_of_ble_eq_true rfl), (Nat.le_of_ble_eq_true rfl)⟩ ⟨(Nat.le_of_ble_eq_true rfl), (Nat.le_of_ble_eq_true rfl)⟩ hK hH (fun q h => Or.inr h) Bl0 (fun _ _ _ => trivial) 10 0 rfl (mwc0 C A u) rfl hl.1 rfl (Nat.le_of_ble_eq_true rfl) dX10_asks_2 (fun r2 u1 H locs p3 hH => ?_)
  obtain ⟨hI, hUu1, p3⟩ := p3
  obtain ⟨f4, f5, f6⟩ := p3
  refine lv_if_ne (tgt := 13) hx hb dX10_asks_5 (by decide) (fun c7 => ?_) (fun c7 => ?_)
  · have c7 := cNE (x := r2) (y := 0) (X := r2.toInt) (Y := 0) rfl (by decide) c7
    exact hret _ _ _ _ _ dX10_asks_13 ⟨hI, (Un.tr Un.rf hUu1 rfl rfl rfl), ⟨by have q6 := (show (gi u1 6).toInt = ((gi u 6)).toInt from (congrArg Int32.toInt (show gi u1 6 = (gi u 6) from ((hUu1.1 6 rfl).trans rfl))).trans rfl); have q7 := (show (gi u1 7).toInt = ((gi u1 7)).toInt from (congrArg Int32.toInt (show gi u1 7 = (gi u1 7) from rfl)).trans rfl); have q8 := (show (gi u1 8).toInt = ((gi u1 8)).toInt from (congrArg Int32.toInt (show gi u1 8 = (gi u1 8) from rfl)).trans rfl); have q9 := (show (gi u1 9).toInt = ((gi u1 9)).toInt from (congrArg Int32.toInt (show gi u1 9 = (gi u1 9) from rfl)).trans rfl); have q12 := (show (gi u1 12).toInt = ((gi u 12)).toInt from (congrArg Int32.toInt (show gi u1 12 = (gi u 12) from ((hUu1.1 12 rfl).trans rfl))).trans rfl); omega, by have q6 := (show (gi u1 6).toInt = ((gi u 6)).toInt from (congrArg Int32.toInt (show gi u1 6 = (gi u 6) from ((hUu1.1 6 rfl).trans rfl))).trans rfl); have q7 := (show (gi u1 7).toInt = ((gi u1 7)).toInt from (congrArg Int32.toInt (show gi u1 7 = (gi u1 7) from rfl)).trans rfl); have q8 := (show (gi u1 8).toInt = ((gi u1 8)).toInt from (congrArg Int32.toInt (show gi u1 8 = (gi u1 8) from rfl)).trans rfl); have q9 := (show (gi u1 9).toInt = ((gi u1 9)).toInt from (congrArg Int32.toInt (show gi u1 9 = (gi u1 9) from rfl)).trans rfl); have q12 := (show (gi u1 12).toInt = ((gi u 12)).toInt from (congrArg Int32.toInt (show gi u1 12 = (gi u 12) from ((hUu1.1 12 rfl).trans rfl))).trans rfl); omega⟩⟩ hH
  · have c7 := cEQ (x := r2) (y := 0) (X := r2.toInt) (Y := 0) rfl (by decide) c7
    refine lv_aload_n hx hb dX10_asks_8 rfl (lv_at hl 0 rfl) ?_
    refine lv_iconst (v := 1) hx hb dX10_asks_9 (by decide) ?_
    refine cvU (n := 1) (As := [.int 1]) (rest := []) ⟨hx, hb, hml, hown, hts⟩ uc_in (kX10_fails_1 l D C A u1 hI  _) q_m1400 q_n1402 q_p61 q_i11 q_c1403 hvX10_fails ⟨(Nat.le_of_ble_eq_true rfl), (Nat.le_of_ble_eq_true rfl)⟩ ⟨(Nat.le_of_ble_eq_true rfl), (Nat.le_of_ble_eq_true rfl)⟩ hK hH (fun q h => Or.inr h) Bl0 (fun _ _ _ => trivial) 10 0 rfl (mwc0 C A u1) rfl hl.1 rfl (Nat.le_of_ble_eq_true rfl) dX10_asks_10 (fun u8 H locs p10 hH => ?_)
    obtain ⟨hI, hUu8, p10⟩ := p10
    exact hret _ _ _ _ _ dX10_asks_13 ⟨hI, (Un.tr (Un.tr Un.rf hUu1 rfl rfl rfl) hUu8 rfl rfl rfl), ⟨by have q6 := (show (gi u8 6).toInt = ((gi u 6)).toInt from (congrArg Int32.toInt (show gi u8 6 = (gi u 6) from ((hUu8.1 6 rfl).trans ((hUu1.1 6 rfl).trans rfl)))).trans rfl); have q7 := (show (gi u8 7).toInt = ((gi u1 7)).toInt from (congrArg Int32.toInt (show gi u8 7 = (gi u1 7) from ((hUu8.1 7 rfl).trans rfl))).trans rfl); have q8 := (show (gi u8 8).toInt = ((gi u1 8)).toInt from (congrArg Int32.toInt (show gi u8 8 = (gi u1 8) from ((hUu8.1 8 rfl).trans rfl))).trans rfl); have q9 := (show (gi u8 9).toInt = ((gi u1 9)).toInt from (congrArg Int32.toInt (show gi u8 9 = (gi u1 9) from ((hUu8.1 9 rfl).trans rfl))).trans rfl); have q12 := (show (gi u8 12).toInt = ((gi u8 12)).toInt from (congrArg Int32.toInt (show gi u8 12 = (gi u8 12) from rfl)).trans rfl); omega, by have q6 := (show (gi u8 6).toInt = ((gi u 6)).toInt from (congrArg Int32.toInt (show gi u8 6 = (gi u 6) from ((hUu8.1 6 rfl).trans ((hUu1.1 6 rfl).trans rfl)))).trans rfl); have q7 := (show (gi u8 7).toInt = ((gi u1 7)).toInt from (congrArg Int32.toInt (show gi u8 7 = (gi u1 7) from ((hUu8.1 7 rfl).trans rfl))).trans rfl); have q8 := (show (gi u8 8).toInt = ((gi u1 8)).toInt from (congrArg Int32.toInt (show gi u8 8 = (gi u1 8) from ((hUu8.1 8 rfl).trans rfl))).trans rfl); have q9 := (show (gi u8 9).toInt = ((gi u1 9)).toInt from (congrArg Int32.toInt (show gi u8 9 = (gi u1 9) from ((hUu8.1 9 rfl).trans rfl))).trans rfl); have q12 := (show (gi u8 12).toInt = ((gi u8 12)).toInt from (congrArg Int32.toInt (show gi u8 12 = (gi u8 12) from rfl)).trans rfl); omega⟩⟩ hH
set_option maxHeartbeats 4000000 in
set_option maxRecDepth 100000 in
theorem kX10_fails_2 (l : Launch) (D : va_G) (C : Nat → ClassId) (A : Nat → Nat) (u : St) (hI : IM u) (sz : Nat) : MetV l yX10_fails cX10_fails 2 1 [.ref (A 0), .int 2] D (tyl C) (mw C A) X0 u sz (fun u' => IM u' ∧ Un [(12, 12), (13, 13)] [] [] u u' ∧ (gi u' 12).toInt ≠ 0) := by
  refine mV (by decide) (Nat.le_of_ble_eq_true rfl) ?_
  intro p e s m below meth c ls ar Q hx hb hml hown hts hK hH hX hl hret
  have hown : s.vm.findClass RX10 = some m.cls := hown
  have hl : lv_has ls 2 [(0, .ref (A 0)), (1, .int 2)] := hl
  refine lv_aload_n hx hb dX10_fails_0 rfl (lv_at hl 0 rfl) ?_
  refine va_get (ci := 10) (v := .int (gi u 12)) (C := RX10) (T := TX10) (N := 42) hx hb hts (fun w h => uc_in w (inX10 w h)) hown hK hH.1 0 (mwc0 C A u) rfl 12 (by decide) (hts _ (uc_in _ q_f1200)) (fun _ h9 => h9) rfl dX10_fails_1 ?_
  refine lv_if_eq (tgt := 8) hx hb dX10_fails_4 (by decide) (fun c1 => ?_) (fun c1 => ?_)
  · have c1 := cEQ (x := (gi u 12)) (y := 0) (X := ((gi u 12)).toInt) (Y := 0) rfl (by decide) c1
    refine lv_aload_n hx hb dX10_fails_8 rfl (lv_at hl 0 rfl) ?_
    refine lv_iload_n hx hb dX10_fails_9 rfl (lv_at hl 1 rfl) ?_
    refine r_put (j := 12) (ci := 10) (C := RX10) (T := TX10) (N := 42) hx hb hts (fun w h => uc_in w (inX10 w h)) tyX10 tyX10_ok nmX10 hown hK hH 0 (mwc0 C A u) rfl 12 (by decide) (hts _ (uc_in _ q_f1200)) (fun _ h9 => h9) rfl (by decide +kernel) (Nat.le_of_ble_eq_true rfl) (mws12 C A u _) dX10_fails_10 (fun u2 eu2 H locs hH => ?_)
    have hI := hI.pi0 eu2 rfl
    refine lv_aload_n hx hb dX10_fails_13 rfl (lv_at hl 0 rfl) ?_
    refine lv_aload_n hx hb dX10_fails_14 rfl (lv_at hl 0 rfl) ?_
    refine va_get (ci := 10) (v := .int (gi u2 9)) (C := RX10) (T := TX10) (N := 42) hx hb hts (fun w h => uc_in w (inX10 w h)) hown hK hH.1 0 (mwc0 C A u2) rfl 9 (by decide) (hts _ (uc_in _ q_f1197)) (fun _ h9 => h9) rfl dX10_fails_15 ?_
    refine r_put (j := 13) (ci := 10) (C := RX10) (T := TX10) (N := 42) hx hb hts (fun w h => uc_in w (inX10 w h)) tyX10 tyX10_ok nmX10 hown hK hH 0 (mwc0 C A u2) rfl 13 (by decide) (hts _ (uc_in _ q_f1201)) (fun _ h9 => h9) rfl (by decide +kernel) (Nat.le_of_ble_eq_true rfl) (mws13 C A u2 _) dX10_fails_18 (fun u3 eu3 H locs hH => ?_)
    have hI := hI.pi0 eu3 rfl
    exact hret _ _ _ _ _ dX10_fails_21 ⟨hI, (Un.si (Un.si Un.rf rfl eu2) rfl eu3), (by have q12 := (show (gi u3 12).toInt = 2 from (congrArg Int32.toInt (show gi u3 12 = 2 from ((gi_ne eu3 (by decide)).trans (gi_si eu2)))).trans (by decide)); omega)⟩ hH
  · have c1 := cNE (x := (gi u 12)) (y := 0) (X := ((gi u 12)).toInt) (Y := 0) rfl (by decide) c1
    exact hret _ _ _ _ _ dX10_fails_7 ⟨hI, Un.rf, (by have q12 := (show (gi u 12).toInt = ((gi u 12)).toInt from (congrArg Int32.toInt (show gi u 12 = (gi u 12) from rfl)).trans rfl); omega)⟩ hH
set_option maxHeartbeats 4000000 in
set_option maxRecDepth 100000 in
theorem kX10_number_0 (l : Launch) (D : va_G) (C : Nat → ClassId) (A : Nat → Nat) (u : St) (hI : IM u) (hPI : (gi u 9).toInt ≤ (gi u 7).toInt ∧ (gi u 7).toInt ≤ (gi u 6).toInt ∧ ((gi u 8).toInt = 0 ∨ (gi u 9).toInt < (gi u 7).toInt)) (sz : Nat) : MetI l yX10_number cX10_number 4 (some .int) 3 [.ref (A 0), .int 0, .int 9] D (tyl C) (mw C A) X0 u sz (fun r u' => IM u' ∧ Un [(7, 7), (8, 8), (9, 9), (10, 10), (12, 12), (13, 13)] [] [] u u' ∧ (((gi u' 9).toInt ≤ (gi u' 7).toInt ∧ (gi u' 7).toInt ≤ (gi u 6).toInt ∧ ((gi u' 8).toInt = 0 ∨ (gi u' 9).toInt < (gi u' 7).toInt)) ∧ (gi u 9).toInt ≤ (gi u' 9).toInt ∧ (0 ≤ r.toInt ∧ r.toInt ≤ 9))) := by
  refine mI (by decide) (Nat.le_of_ble_eq_true rfl) ?_
  intro p e s m below meth c ls ar Q hx hb hml hown hts hK hH hX hl hret
  have hown : s.vm.findClass RX10 = some m.cls := hown
  have hl : lv_has ls 4 [(0, .ref (A 0)), (1, .int 0), (2, .int 9)] := hl
  refine lv_aload_n hx hb dX10_number_0 rfl (lv_at hl 0 rfl) ?_
  refine va_get (ci := 10) (v := .int (gi u 12)) (C := RX10) (T := TX10) (N := 42) hx hb hts (fun w h => uc_in w (inX10 w h)) hown hK hH.1 0 (mwc0 C A u) rfl 12 (by decide) (hts _ (uc_in _ q_f1200)) (fun _ h9 => h9) rfl dX10_number_1 ?_
  refine lv_if_eq (tgt := 9) hx hb dX10_number_4 (by decide) (fun c1 => ?_) (fun c1 => ?_)
  · have c1 := cEQ (x := (gi u 12)) (y := 0) (X := ((gi u 12)).toInt) (Y := 0) rfl (by decide) c1
    refine lv_aload_n hx hb dX10_number_9 rfl (lv_at hl 0 rfl) ?_
    refine va_get (ci := 10) (v := .int (gi u 8)) (C := RX10) (T := TX10) (N := 42) hx hb hts (fun w h => uc_in w (inX10 w h)) hown hK hH.1 0 (mwc0 C A u) rfl 8 (by decide) (hts _ (uc_in _ q_f1196)) (fun _ h9 => h9) rfl dX10_number_10 ?_
    refine lv_iconst (v := 2) hx hb dX10_number_13 (by decide) ?_
    refine lv_icmp_eq (tgt := 24) hx hb dX10_number_14 (by decide) (fun c2 => ?_) (fun c2 => ?_)
    · have c2 := cEQ (x := (gi u 8)) (y := 2) (X := ((gi u 8)).toInt) (Y := 2) rfl (by decide) c2
      refine lv_aload_n hx hb dX10_number_24 rfl (lv_at hl 0 rfl) ?_
      refine va_get (ci := 10) (v := .int (gi u 10)) (C := RX10) (T := TX10) (N := 42) hx hb hts (fun w h => uc_in w (inX10 w h)) hown hK hH.1 0 (mwc0 C A u) rfl 10 (by decide) (hts _ (uc_in _ q_f1198)) (fun _ h9 => h9) rfl dX10_number_25 ?_
      refine lv_i2l (v := (gi u 10).toInt64) hx hb dX10_number_28 rfl ?_
      refine lv_iload_n hx hb dX10_number_29 rfl (lv_at hl 1 rfl) ?_
      refine lv_i2l (v := 0) hx hb dX10_number_30 (by decide) ?_
      refine lv_iload_n hx hb dX10_number_31 rfl (lv_at hl 2 rfl) ?_
      refine lv_i2l (v := 9) hx hb dX10_number_32 (by decide) ?_
      refine csS (n := 3) (As := [.long ((gi u 10).toInt64), .long 0, .long 9]) (rest := []) ⟨hx, hb, hml, hown, hts⟩ uc_in (kX10_in_0 l D C A u hI ((gi u 10).toInt64) (((gi u 10)).toInt) (tt_i2l rfl) (0) 0 (by decide) (9) 9 (by decide)) q_m1324 q_s1325 q_i11 q_c1326 hvX10_in ⟨(Nat.le_of_ble_eq_true rfl), (Nat.le_of_ble_eq_true rfl)⟩ ⟨(Nat.le_of_ble_eq_true rfl), (Nat.le_of_ble_eq_true rfl)⟩ hK hH.1 rfl hl.1 rfl (Nat.le_of_ble_eq_true rfl) dX10_number_33 (fun r3 p4 => ?_)
      rcases p4 with ⟨e9, f5, f6⟩ | ⟨e9, fn7⟩
      · subst e9
        refine lv_if_ne (tgt := 46) hx hb dX10_number_36 (by decide) (fun c8 => ?_) (fun c8 => absurd c8 (by decide))
        refine lv_aload_n hx hb dX10_number_46 rfl (lv_at hl 0 rfl) ?_
        refine va_get (ci := 10) (v := .int (gi u 10)) (C := RX10) (T := TX10) (N := 42) hx hb hts (fun w h => uc_in w (inX10 w h)) hown hK hH.1 0 (mwc0 C A u) rfl 10 (by decide) (hts _ (uc_in _ q_f1198)) (fun _ h9 => h9) rfl dX10_number_47 ?_
        refine lv_istore_n (lv' := [(3, .int (gi u 10)), (0, .ref (A 0)), (1, .int 0), (2, .int 9)]) hx hb dX10_number_50 rfl hl (by decide) rfl (fun ls hl => ?_)
        refine lv_aload_n hx hb dX10_number_51 rfl (lv_at hl 1 rfl) ?_
        refine cvU (n := 0) (As := []) (rest := []) ⟨hx, hb, hml, hown, hts⟩ uc_in (kX10_next_0 l D C A u hI (by have q5 := hI.b6; omega) _) q_m1370 q_n1372 q_p55 q_i11 q_c1373 hvX10_next ⟨(Nat.le_of_ble_eq_true rfl), (Nat.le_of_ble_eq_true rfl)⟩ ⟨(Nat.le_of_ble_eq_true rfl), (Nat.le_of_ble_eq_true rfl)⟩ hK hH (fun q h => Or.inr h) Bl0 (fun _ _ _ => trivial) 10 0 rfl (mwc0 C A u) rfl hl.1 rfl (Nat.le_of_ble_eq_true rfl) dX10_number_52 (fun u9 H locs p11 hH => ?_)
        obtain ⟨hI, hUu9, p11⟩ := p11
        refine lv_iload_n hx hb dX10_number_55 rfl (lv_at hl 0 rfl) ?_
        exact hret _ _ _ _ (gi u 10) _ dX10_number_56 rfl ⟨hI, (Un.tr Un.rf hUu9 rfl rfl rfl), ⟨by have q6 := (show (gi u9 6).toInt = ((gi u 6)).toInt from (congrArg Int32.toInt (show gi u9 6 = (gi u 6) from ((hUu9.1 6 rfl).trans rfl))).trans rfl); have q7 := (show (gi u9 7).toInt = ((gi u9 7)).toInt from (congrArg Int32.toInt (show gi u9 7 = (gi u9 7) from rfl)).trans rfl); have q8 := (show (gi u9 8).toInt = ((gi u9 8)).toInt from (congrArg Int32.toInt (show gi u9 8 = (gi u9 8) from rfl)).trans rfl); have q9 := (show (gi u9 9).toInt = ((gi u9 9)).toInt from (congrArg Int32.toInt (show gi u9 9 = (gi u9 9) from rfl)).trans rfl); have q12 := (show (gi u9 12).toInt = ((gi u 12)).toInt from (congrArg Int32.toInt (show gi u9 12 = (gi u 12) from ((hUu9.1 12 rfl).trans rfl))).trans rfl); omega, by have q6 := (show (gi u9 6).toInt = ((gi u 6)).toInt from (congrArg Int32.toInt (show gi u9 6 = (gi u 6) from ((hUu9.1 6 rfl).trans rfl))).trans rfl); have q7 := (show (gi u9 7).toInt = ((gi u9 7)).toInt from (congrArg Int32.toInt (show gi u9 7 = (gi u9 7) from rfl)).trans rfl); have q8 := (show (gi u9 8).toInt = ((gi u9 8)).toInt from (congrArg Int32.toInt (show gi u9 8 = (gi u9 8) from rfl)).trans rfl); have q9 := (show (gi u9 9).toInt = ((gi u9 9)).toInt from (congrArg Int32.toInt (show gi u9 9 = (gi u9 9) from rfl)).trans rfl); have q12 := (show (gi u9 12).toInt = ((gi u 12)).toInt from (congrArg Int32.toInt (show gi u9 12 = (gi u 12) from ((hUu9.1 12 rfl).trans rfl))).trans rfl); omega, ⟨by have q9 := (show (gi u 10).toInt = ((gi u 10)).toInt from rfl); omega, by have q9 := (show (gi u 10).toInt = ((gi u 10)).toInt from rfl); omega⟩⟩⟩ hH
      · subst e9
        refine lv_if_ne (tgt := 46) hx hb dX10_number_36 (by decide) (fun c12 => absurd c12 (by decide)) (fun c12 => ?_)
        refine lv_aload_n hx hb dX10_number_39 rfl (lv_at hl 0 rfl) ?_
        refine lv_iconst (v := 2) hx hb dX10_number_40 (by decide) ?_
        refine cvU (n := 1) (As := [.int 2]) (rest := []) ⟨hx, hb, hml, hown, hts⟩ uc_in (kX10_fails_2 l D C A u hI  _) q_m1400 q_n1402 q_p61 q_i11 q_c1403 hvX10_fails ⟨(Nat.le_of_ble_eq_true rfl), (Nat.le_of_ble_eq_true rfl)⟩ ⟨(Nat.le_of_ble_eq_true rfl), (Nat.le_of_ble_eq_true rfl)⟩ hK hH (fun q h => Or.inr h) Bl0 (fun _ _ _ => trivial) 10 0 rfl (mwc0 C A u) rfl hl.1 rfl (Nat.le_of_ble_eq_true rfl) dX10_number_41 (fun u13 H locs p15 hH => ?_)
        obtain ⟨hI, hUu13, p15⟩ := p15
        refine lv_iload_n hx hb dX10_number_44 rfl (lv_at hl 1 rfl) ?_
        exact hret _ _ _ _ (0 : Int32) _ dX10_number_45 rfl ⟨hI, (Un.tr Un.rf hUu13 rfl rfl rfl), ⟨by have q6 := (show (gi u13 6).toInt = ((gi u 6)).toInt from (congrArg Int32.toInt (show gi u13 6 = (gi u 6) from ((hUu13.1 6 rfl).trans rfl))).trans rfl); have q7 := (show (gi u13 7).toInt = ((gi u 7)).toInt from (congrArg Int32.toInt (show gi u13 7 = (gi u 7) from ((hUu13.1 7 rfl).trans rfl))).trans rfl); have q8 := (show (gi u13 8).toInt = ((gi u 8)).toInt from (congrArg Int32.toInt (show gi u13 8 = (gi u 8) from ((hUu13.1 8 rfl).trans rfl))).trans rfl); have q9 := (show (gi u13 9).toInt = ((gi u 9)).toInt from (congrArg Int32.toInt (show gi u13 9 = (gi u 9) from ((hUu13.1 9 rfl).trans rfl))).trans rfl); have q12 := (show (gi u13 12).toInt = ((gi u13 12)).toInt from (congrArg Int32.toInt (show gi u13 12 = (gi u13 12) from rfl)).trans rfl); omega, by have q6 := (show (gi u13 6).toInt = ((gi u 6)).toInt from (congrArg Int32.toInt (show gi u13 6 = (gi u 6) from ((hUu13.1 6 rfl).trans rfl))).trans rfl); have q7 := (show (gi u13 7).toInt = ((gi u 7)).toInt from (congrArg Int32.toInt (show gi u13 7 = (gi u 7) from ((hUu13.1 7 rfl).trans rfl))).trans rfl); have q8 := (show (gi u13 8).toInt = ((gi u 8)).toInt from (congrArg Int32.toInt (show gi u13 8 = (gi u 8) from ((hUu13.1 8 rfl).trans rfl))).trans rfl); have q9 := (show (gi u13 9).toInt = ((gi u 9)).toInt from (congrArg Int32.toInt (show gi u13 9 = (gi u 9) from ((hUu13.1 9 rfl).trans rfl))).trans rfl); have q12 := (show (gi u13 12).toInt = ((gi u13 12)).toInt from (congrArg Int32.toInt (show gi u13 12 = (gi u13 12) from rfl)).trans rfl); omega, ⟨by decide, by decide⟩⟩⟩ hH
    · refine lv_aload_n hx hb dX10_number_17 rfl (lv_at hl 0 rfl) ?_
      refine lv_iconst (v := 1) hx hb dX10_number_18 (by decide) ?_
      refine cvU (n := 1) (As := [.int 1]) (rest := []) ⟨hx, hb, hml, hown, hts⟩ uc_in (kX10_fails_1 l D C A u hI  _) q_m1400 q_n1402 q_p61 q_i11 q_c1403 hvX10_fails ⟨(Nat.le_of_ble_eq_true rfl), (Nat.le_of_ble_eq_true rfl)⟩ ⟨(Nat.le_of_ble_eq_true rfl), (Nat.le_of_ble_eq_true rfl)⟩ hK hH (fun q h => Or.inr h) Bl0 (fun _ _ _ => trivial) 10 0 rfl (mwc0 C A u) rfl hl.1 rfl (Nat.le_of_ble_eq_true rfl) dX10_number_19 (fun u16 H locs p18 hH => ?_)
      obtain ⟨hI, hUu16, p18⟩ := p18
      refine lv_iload_n hx hb dX10_number_22 rfl (lv_at hl 1 rfl) ?_
      exact hret _ _ _ _ (0 : Int32) _ dX10_number_23 rfl ⟨hI, (Un.tr Un.rf hUu16 rfl rfl rfl), ⟨by have q6 := (show (gi u16 6).toInt = ((gi u 6)).toInt from (congrArg Int32.toInt (show gi u16 6 = (gi u 6) from ((hUu16.1 6 rfl).trans rfl))).trans rfl); have q7 := (show (gi u16 7).toInt = ((gi u 7)).toInt from (congrArg Int32.toInt (show gi u16 7 = (gi u 7) from ((hUu16.1 7 rfl).trans rfl))).trans rfl); have q8 := (show (gi u16 8).toInt = ((gi u 8)).toInt from (congrArg Int32.toInt (show gi u16 8 = (gi u 8) from ((hUu16.1 8 rfl).trans rfl))).trans rfl); have q9 := (show (gi u16 9).toInt = ((gi u 9)).toInt from (congrArg Int32.toInt (show gi u16 9 = (gi u 9) from ((hUu16.1 9 rfl).trans rfl))).trans rfl); have q12 := (show (gi u16 12).toInt = ((gi u16 12)).toInt from (congrArg Int32.toInt (show gi u16 12 = (gi u16 12) from rfl)).trans rfl); omega, by have q6 := (show (gi u16 6).toInt = ((gi u 6)).toInt from (congrArg Int32.toInt (show gi u16 6 = (gi u 6) from ((hUu16.1 6 rfl).trans rfl))).trans rfl); have q7 := (show (gi u16 7).toInt = ((gi u 7)).toInt from (congrArg Int32.toInt (show gi u16 7 = (gi u 7) from ((hUu16.1 7 rfl).trans rfl))).trans rfl); have q8 := (show (gi u16 8).toInt = ((gi u 8)).toInt from (congrArg Int32.toInt (show gi u16 8 = (gi u 8) from ((hUu16.1 8 rfl).trans rfl))).trans rfl); have q9 := (show (gi u16 9).toInt = ((gi u 9)).toInt from (congrArg Int32.toInt (show gi u16 9 = (gi u 9) from ((hUu16.1 9 rfl).trans rfl))).trans rfl); have q12 := (show (gi u16 12).toInt = ((gi u16 12)).toInt from (congrArg Int32.toInt (show gi u16 12 = (gi u16 12) from rfl)).trans rfl); omega, ⟨by decide, by decide⟩⟩⟩ hH
  · refine lv_iload_n hx hb dX10_number_7 rfl (lv_at hl 1 rfl) ?_
    exact hret _ _ _ _ (0 : Int32) _ dX10_number_8 rfl ⟨hI, Un.rf, ⟨by have q6 := (show (gi u 6).toInt = ((gi u 6)).toInt from (congrArg Int32.toInt (show gi u 6 = (gi u 6) from rfl)).trans rfl); have q7 := (show (gi u 7).toInt = ((gi u 7)).toInt from (congrArg Int32.toInt (show gi u 7 = (gi u 7) from rfl)).trans rfl); have q8 := (show (gi u 8).toInt = ((gi u 8)).toInt from (congrArg Int32.toInt (show gi u 8 = (gi u 8) from rfl)).trans rfl); have q9 := (show (gi u 9).toInt = ((gi u 9)).toInt from (congrArg Int32.toInt (show gi u 9 = (gi u 9) from rfl)).trans rfl); have q12 := (show (gi u 12).toInt = ((gi u 12)).toInt from (congrArg Int32.toInt (show gi u 12 = (gi u 12) from rfl)).trans rfl); omega, by have q6 := (show (gi u 6).toInt = ((gi u 6)).toInt from (congrArg Int32.toInt (show gi u 6 = (gi u 6) from rfl)).trans rfl); have q7 := (show (gi u 7).toInt = ((gi u 7)).toInt from (congrArg Int32.toInt (show gi u 7 = (gi u 7) from rfl)).trans rfl); have q8 := (show (gi u 8).toInt = ((gi u 8)).toInt from (congrArg Int32.toInt (show gi u 8 = (gi u 8) from rfl)).trans rfl); have q9 := (show (gi u 9).toInt = ((gi u 9)).toInt from (congrArg Int32.toInt (show gi u 9 = (gi u 9) from rfl)).trans rfl); have q12 := (show (gi u 12).toInt = ((gi u 12)).toInt from (congrArg Int32.toInt (show gi u 12 = (gi u 12) from rfl)).trans rfl); omega, ⟨by decide, by decide⟩⟩⟩ hH
set_option maxHeartbeats 4000000 in
set_option maxRecDepth 100000 in
theorem kX10_number__0 (l : Launch) (D : va_G) (C : Nat → ClassId) (A : Nat → Nat) (u : St) (hI : IM u) (a0 : Int64) (A0 : Int) (ha0 : a0.toInt = A0) (hPI : (gi u 9).toInt ≤ (gi u 7).toInt ∧ (gi u 7).toInt ≤ (gi u 6).toInt ∧ ((gi u 8).toInt = 0 ∨ (gi u 9).toInt < (gi u 7).toInt)) (sz : Nat) : MetI l yX10_number_ cX10_number_ 5 (some .int) 5 [.ref (A 0), .long a0, .int 0, .int 9] D (tyl C) (mw C A) X0 u sz (fun r u' => IM u' ∧ Un [(7, 7), (8, 8), (9, 9), (10, 10), (12, 12), (13, 13)] [] [] u u' ∧ (((gi u' 9).toInt ≤ (gi u' 7).toInt ∧ (gi u' 7).toInt ≤ (gi u 6).toInt ∧ ((gi u' 8).toInt = 0 ∨ (gi u' 9).toInt < (gi u' 7).toInt)) ∧ (gi u 9).toInt ≤ (gi u' 9).toInt ∧ (0 ≤ r.toInt ∧ r.toInt ≤ 9))) := by
  refine mI (by decide) (Nat.le_of_ble_eq_true rfl) ?_
  intro p e s m below meth c ls ar Q hx hb hml hown hts hK hH hX hl hret
  have hown : s.vm.findClass RX10 = some m.cls := hown
  have hl : lv_has ls 5 [(0, .ref (A 0)), (1, .long a0), (3, .int 0), (4, .int 9)] := hl
  refine lv_aload_n hx hb dX10_number__0 rfl (lv_at hl 0 rfl) ?_
  refine lv_lload_n hx hb dX10_number__1 rfl (lv_at hl 1 rfl) ?_
  refine cvU (n := 1) (As := [.long a0]) (rest := []) ⟨hx, hb, hml, hown, hts⟩ uc_in (kX10_asks_0 l D C A u hI a0 A0 ha0 (by omega) _) q_m1388 q_n1390 q_p58 q_i11 q_c1391 hvX10_asks ⟨(Nat.le_of_ble_eq_true rfl), (Nat.le_of_ble_eq_true rfl)⟩ ⟨(Nat.le_of_ble_eq_true rfl), (Nat.le_of_ble_eq_true rfl)⟩ hK hH (fun q h => Or.inr h) Bl0 (fun _ _ _ => trivial) 10 0 rfl (mwc0 C A u) rfl hl.1 rfl (Nat.le_of_ble_eq_true rfl) dX10_number__2 (fun u1 H locs p3 hH => ?_)
  obtain ⟨hI, hUu1, p3⟩ := p3
  obtain ⟨f4, f5⟩ := p3
  refine lv_aload_n hx hb dX10_number__5 rfl (lv_at hl 0 rfl) ?_
  refine lv_iload_n hx hb dX10_number__6 rfl (lv_at hl 2 rfl) ?_
  refine lv_iload hx hb dX10_number__7 (lv_at hl 3 rfl) ?_
  have q7 := (show (gi u1 6).toInt = ((gi u 6)).toInt from (congrArg Int32.toInt (show gi u1 6 = (gi u 6) from ((hUu1.1 6 rfl).trans rfl))).trans rfl)
  refine cvI (n := 2) (As := [.int 0, .int 9]) (rest := []) ⟨hx, hb, hml, hown, hts⟩ uc_in (kX10_number_0 l D C A u1 hI (by omega) _) q_m1409 q_n1411 q_p63 q_i11 q_c1412 hvX10_number ⟨(Nat.le_of_ble_eq_true rfl), (Nat.le_of_ble_eq_true rfl)⟩ ⟨(Nat.le_of_ble_eq_true rfl), (Nat.le_of_ble_eq_true rfl)⟩ hK hH (fun q h => Or.inr h) Bl0 (fun _ _ _ => trivial) 10 0 rfl (mwc0 C A u1) rfl hl.1 rfl (Nat.le_of_ble_eq_true rfl) dX10_number__9 (fun r9 u8 H locs p10 hH => ?_)
  obtain ⟨hI, hUu8, p10⟩ := p10
  obtain ⟨f11, f12, f13⟩ := p10
  exact hret _ _ _ _ r9 _ dX10_number__12 rfl ⟨hI, (Un.tr (Un.tr Un.rf hUu1 rfl rfl rfl) hUu8 rfl rfl rfl), ⟨by have q6 := (show (gi u8 6).toInt = ((gi u 6)).toInt from (congrArg Int32.toInt (show gi u8 6 = (gi u 6) from ((hUu8.1 6 rfl).trans ((hUu1.1 6 rfl).trans rfl)))).trans rfl); have q7 := (show (gi u8 7).toInt = ((gi u8 7)).toInt from (congrArg Int32.toInt (show gi u8 7 = (gi u8 7) from rfl)).trans rfl); have q8 := (show (gi u8 8).toInt = ((gi u8 8)).toInt from (congrArg Int32.toInt (show gi u8 8 = (gi u8 8) from rfl)).trans rfl); have q9 := (show (gi u8 9).toInt = ((gi u8 9)).toInt from (congrArg Int32.toInt (show gi u8 9 = (gi u8 9) from rfl)).trans rfl); have q12 := (show (gi u8 12).toInt = ((gi u8 12)).toInt from (congrArg Int32.toInt (show gi u8 12 = (gi u8 12) from rfl)).trans rfl); omega, by have q6 := (show (gi u8 6).toInt = ((gi u 6)).toInt from (congrArg Int32.toInt (show gi u8 6 = (gi u 6) from ((hUu8.1 6 rfl).trans ((hUu1.1 6 rfl).trans rfl)))).trans rfl); have q7 := (show (gi u8 7).toInt = ((gi u8 7)).toInt from (congrArg Int32.toInt (show gi u8 7 = (gi u8 7) from rfl)).trans rfl); have q8 := (show (gi u8 8).toInt = ((gi u8 8)).toInt from (congrArg Int32.toInt (show gi u8 8 = (gi u8 8) from rfl)).trans rfl); have q9 := (show (gi u8 9).toInt = ((gi u8 9)).toInt from (congrArg Int32.toInt (show gi u8 9 = (gi u8 9) from rfl)).trans rfl); have q12 := (show (gi u8 12).toInt = ((gi u8 12)).toInt from (congrArg Int32.toInt (show gi u8 12 = (gi u8 12) from rfl)).trans rfl); omega, ⟨by have q9 := (show r9.toInt = r9.toInt from rfl); omega, by have q9 := (show r9.toInt = r9.toInt from rfl); omega⟩⟩⟩ hH
set_option maxHeartbeats 4000000 in
set_option maxRecDepth 100000 in
theorem kX10_number_1 (l : Launch) (D : va_G) (C : Nat → ClassId) (A : Nat → Nat) (u : St) (hI : IM u) (hPI : (gi u 9).toInt ≤ (gi u 7).toInt ∧ (gi u 7).toInt ≤ (gi u 6).toInt ∧ ((gi u 8).toInt = 0 ∨ (gi u 9).toInt < (gi u 7).toInt)) (sz : Nat) : MetI l yX10_number cX10_number 4 (some .int) 3 [.ref (A 0), .int 0, .int 60] D (tyl C) (mw C A) X0 u sz (fun r u' => IM u' ∧ Un [(7, 7), (8, 8), (9, 9), (10, 10), (12, 12), (13, 13)] [] [] u u' ∧ (((gi u' 9).toInt ≤ (gi u' 7).toInt ∧ (gi u' 7).toInt ≤ (gi u 6).toInt ∧ ((gi u' 8).toInt = 0 ∨ (gi u' 9).toInt < (gi u' 7).toInt)) ∧ (gi u 9).toInt ≤ (gi u' 9).toInt ∧ (0 ≤ r.toInt ∧ r.toInt ≤ 60))) := by
  refine mI (by decide) (Nat.le_of_ble_eq_true rfl) ?_
  intro p e s m below meth c ls ar Q hx hb hml hown hts hK hH hX hl hret
  have hown : s.vm.findClass RX10 = some m.cls := hown
  have hl : lv_has ls 4 [(0, .ref (A 0)), (1, .int 0), (2, .int 60)] := hl
  refine lv_aload_n hx hb dX10_number_0 rfl (lv_at hl 0 rfl) ?_
  refine va_get (ci := 10) (v := .int (gi u 12)) (C := RX10) (T := TX10) (N := 42) hx hb hts (fun w h => uc_in w (inX10 w h)) hown hK hH.1 0 (mwc0 C A u) rfl 12 (by decide) (hts _ (uc_in _ q_f1200)) (fun _ h9 => h9) rfl dX10_number_1 ?_
  refine lv_if_eq (tgt := 9) hx hb dX10_number_4 (by decide) (fun c1 => ?_) (fun c1 => ?_)
  · have c1 := cEQ (x := (gi u 12)) (y := 0) (X := ((gi u 12)).toInt) (Y := 0) rfl (by decide) c1
    refine lv_aload_n hx hb dX10_number_9 rfl (lv_at hl 0 rfl) ?_
    refine va_get (ci := 10) (v := .int (gi u 8)) (C := RX10) (T := TX10) (N := 42) hx hb hts (fun w h => uc_in w (inX10 w h)) hown hK hH.1 0 (mwc0 C A u) rfl 8 (by decide) (hts _ (uc_in _ q_f1196)) (fun _ h9 => h9) rfl dX10_number_10 ?_
    refine lv_iconst (v := 2) hx hb dX10_number_13 (by decide) ?_
    refine lv_icmp_eq (tgt := 24) hx hb dX10_number_14 (by decide) (fun c2 => ?_) (fun c2 => ?_)
    · have c2 := cEQ (x := (gi u 8)) (y := 2) (X := ((gi u 8)).toInt) (Y := 2) rfl (by decide) c2
      refine lv_aload_n hx hb dX10_number_24 rfl (lv_at hl 0 rfl) ?_
      refine va_get (ci := 10) (v := .int (gi u 10)) (C := RX10) (T := TX10) (N := 42) hx hb hts (fun w h => uc_in w (inX10 w h)) hown hK hH.1 0 (mwc0 C A u) rfl 10 (by decide) (hts _ (uc_in _ q_f1198)) (fun _ h9 => h9) rfl dX10_number_25 ?_
      refine lv_i2l (v := (gi u 10).toInt64) hx hb dX10_number_28 rfl ?_
      refine lv_iload_n hx hb dX10_number_29 rfl (lv_at hl 1 rfl) ?_
      refine lv_i2l (v := 0) hx hb dX10_number_30 (by decide) ?_
      refine lv_iload_n hx hb dX10_number_31 rfl (lv_at hl 2 rfl) ?_
      refine lv_i2l (v := 60) hx hb dX10_number_32 (by decide) ?_
      refine csS (n := 3) (As := [.long ((gi u 10).toInt64), .long 0, .long 60]) (rest := []) ⟨hx, hb, hml, hown, hts⟩ uc_in (kX10_in_0 l D C A u hI ((gi u 10).toInt64) (((gi u 10)).toInt) (tt_i2l rfl) (0) 0 (by decide) (60) 60 (by decide)) q_m1324 q_s1325 q_i11 q_c1326 hvX10_in ⟨(Nat.le_of_ble_eq_true rfl), (Nat.le_of_ble_eq_true rfl)⟩ ⟨(Nat.le_of_ble_eq_true rfl), (Nat.le_of_ble_eq_true rfl)⟩ hK hH.1 rfl hl.1 rfl (Nat.le_of_ble_eq_true rfl) dX10_number_33 (fun r3 p4 => ?_)
      rcases p4 with ⟨e9, f5, f6⟩ | ⟨e9, fn7⟩
      · subst e9
        refine lv_if_ne (tgt := 46) hx hb dX10_number_36 (by decide) (fun c8 => ?_) (fun c8 => absurd c8 (by decide))
        refine lv_aload_n hx hb dX10_number_46 rfl (lv_at hl 0 rfl) ?_
        refine va_get (ci := 10) (v := .int (gi u 10)) (C := RX10) (T := TX10) (N := 42) hx hb hts (fun w h => uc_in w (inX10 w h)) hown hK hH.1 0 (mwc0 C A u) rfl 10 (by decide) (hts _ (uc_in _ q_f1198)) (fun _ h9 => h9) rfl dX10_number_47 ?_
        refine lv_istore_n (lv' := [(3, .int (gi u 10)), (0, .ref (A 0)), (1, .int 0), (2, .int 60)]) hx hb dX10_number_50 rfl hl (by decide) rfl (fun ls hl => ?_)
        refine lv_aload_n hx hb dX10_number_51 rfl (lv_at hl 1 rfl) ?_
        refine cvU (n := 0) (As := []) (rest := []) ⟨hx, hb, hml, hown, hts⟩ uc_in (kX10_next_0 l D C A u hI (by have q5 := hI.b6; omega) _) q_m1370 q_n1372 q_p55 q_i11 q_c1373 hvX10_next ⟨(Nat.le_of_ble_eq_true rfl), (Nat.le_of_ble_eq_true rfl)⟩ ⟨(Nat.le_of_ble_eq_true rfl), (Nat.le_of_ble_eq_true rfl)⟩ hK hH (fun q h => Or.inr h) Bl0 (fun _ _ _ => trivial) 10 0 rfl (mwc0 C A u) rfl hl.1 rfl (Nat.le_of_ble_eq_true rfl) dX10_number_52 (fun u9 H locs p11 hH => ?_)
        obtain ⟨hI, hUu9, p11⟩ := p11
        refine lv_iload_n hx hb dX10_number_55 rfl (lv_at hl 0 rfl) ?_
        exact hret _ _ _ _ (gi u 10) _ dX10_number_56 rfl ⟨hI, (Un.tr Un.rf hUu9 rfl rfl rfl), ⟨by have q6 := (show (gi u9 6).toInt = ((gi u 6)).toInt from (congrArg Int32.toInt (show gi u9 6 = (gi u 6) from ((hUu9.1 6 rfl).trans rfl))).trans rfl); have q7 := (show (gi u9 7).toInt = ((gi u9 7)).toInt from (congrArg Int32.toInt (show gi u9 7 = (gi u9 7) from rfl)).trans rfl); have q8 := (show (gi u9 8).toInt = ((gi u9 8)).toInt from (congrArg Int32.toInt (show gi u9 8 = (gi u9 8) from rfl)).trans rfl); have q9 := (show (gi u9 9).toInt = ((gi u9 9)).toInt from (congrArg Int32.toInt (show gi u9 9 = (gi u9 9) from rfl)).trans rfl); have q12 := (show (gi u9 12).toInt = ((gi u 12)).toInt from (congrArg Int32.toInt (show gi u9 12 = (gi u 12) from ((hUu9.1 12 rfl).trans rfl))).trans rfl); omega, by have q6 := (show (gi u9 6).toInt = ((gi u 6)).toInt from (congrArg Int32.toInt (show gi u9 6 = (gi u 6) from ((hUu9.1 6 rfl).trans rfl))).trans rfl); have q7 := (show (gi u9 7).toInt = ((gi u9 7)).toInt from (congrArg Int32.toInt (show gi u9 7 = (gi u9 7) from rfl)).trans rfl); have q8 := (show (gi u9 8).toInt = ((gi u9 8)).toInt from (congrArg Int32.toInt (show gi u9 8 = (gi u9 8) from rfl)).trans rfl); have q9 := (show (gi u9 9).toInt = ((gi u9 9)).toInt from (congrArg Int32.toInt (show gi u9 9 = (gi u9 9) from rfl)).trans rfl); have q12 := (show (gi u9 12).toInt = ((gi u 12)).toInt from (congrArg Int32.toInt (show gi u9 12 = (gi u 12) from ((hUu9.1 12 rfl).trans rfl))).trans rfl); omega, ⟨by have q9 := (show (gi u 10).toInt = ((gi u 10)).toInt from rfl); omega, by have q9 := (show (gi u 10).toInt = ((gi u 10)).toInt from rfl); omega⟩⟩⟩ hH
      · subst e9
        refine lv_if_ne (tgt := 46) hx hb dX10_number_36 (by decide) (fun c12 => absurd c12 (by decide)) (fun c12 => ?_)
        refine lv_aload_n hx hb dX10_number_39 rfl (lv_at hl 0 rfl) ?_
        refine lv_iconst (v := 2) hx hb dX10_number_40 (by decide) ?_
        refine cvU (n := 1) (As := [.int 2]) (rest := []) ⟨hx, hb, hml, hown, hts⟩ uc_in (kX10_fails_2 l D C A u hI  _) q_m1400 q_n1402 q_p61 q_i11 q_c1403 hvX10_fails ⟨(Nat.le_of_ble_eq_true rfl), (Nat.le_of_ble_eq_true rfl)⟩ ⟨(Nat.le_of_ble_eq_true rfl), (Nat.le_of_ble_eq_true rfl)⟩ hK hH (fun q h => Or.inr h) Bl0 (fun _ _ _ => trivial) 10 0 rfl (mwc0 C A u) rfl hl.1 rfl (Nat.le_of_ble_eq_true rfl) dX10_number_41 (fun u13 H locs p15 hH => ?_)
        obtain ⟨hI, hUu13, p15⟩ := p15
        refine lv_iload_n hx hb dX10_number_44 rfl (lv_at hl 1 rfl) ?_
        exact hret _ _ _ _ (0 : Int32) _ dX10_number_45 rfl ⟨hI, (Un.tr Un.rf hUu13 rfl rfl rfl), ⟨by have q6 := (show (gi u13 6).toInt = ((gi u 6)).toInt from (congrArg Int32.toInt (show gi u13 6 = (gi u 6) from ((hUu13.1 6 rfl).trans rfl))).trans rfl); have q7 := (show (gi u13 7).toInt = ((gi u 7)).toInt from (congrArg Int32.toInt (show gi u13 7 = (gi u 7) from ((hUu13.1 7 rfl).trans rfl))).trans rfl); have q8 := (show (gi u13 8).toInt = ((gi u 8)).toInt from (congrArg Int32.toInt (show gi u13 8 = (gi u 8) from ((hUu13.1 8 rfl).trans rfl))).trans rfl); have q9 := (show (gi u13 9).toInt = ((gi u 9)).toInt from (congrArg Int32.toInt (show gi u13 9 = (gi u 9) from ((hUu13.1 9 rfl).trans rfl))).trans rfl); have q12 := (show (gi u13 12).toInt = ((gi u13 12)).toInt from (congrArg Int32.toInt (show gi u13 12 = (gi u13 12) from rfl)).trans rfl); omega, by have q6 := (show (gi u13 6).toInt = ((gi u 6)).toInt from (congrArg Int32.toInt (show gi u13 6 = (gi u 6) from ((hUu13.1 6 rfl).trans rfl))).trans rfl); have q7 := (show (gi u13 7).toInt = ((gi u 7)).toInt from (congrArg Int32.toInt (show gi u13 7 = (gi u 7) from ((hUu13.1 7 rfl).trans rfl))).trans rfl); have q8 := (show (gi u13 8).toInt = ((gi u 8)).toInt from (congrArg Int32.toInt (show gi u13 8 = (gi u 8) from ((hUu13.1 8 rfl).trans rfl))).trans rfl); have q9 := (show (gi u13 9).toInt = ((gi u 9)).toInt from (congrArg Int32.toInt (show gi u13 9 = (gi u 9) from ((hUu13.1 9 rfl).trans rfl))).trans rfl); have q12 := (show (gi u13 12).toInt = ((gi u13 12)).toInt from (congrArg Int32.toInt (show gi u13 12 = (gi u13 12) from rfl)).trans rfl); omega, ⟨by decide, by decide⟩⟩⟩ hH
    · refine lv_aload_n hx hb dX10_number_17 rfl (lv_at hl 0 rfl) ?_
      refine lv_iconst (v := 1) hx hb dX10_number_18 (by decide) ?_
      refine cvU (n := 1) (As := [.int 1]) (rest := []) ⟨hx, hb, hml, hown, hts⟩ uc_in (kX10_fails_1 l D C A u hI  _) q_m1400 q_n1402 q_p61 q_i11 q_c1403 hvX10_fails ⟨(Nat.le_of_ble_eq_true rfl), (Nat.le_of_ble_eq_true rfl)⟩ ⟨(Nat.le_of_ble_eq_true rfl), (Nat.le_of_ble_eq_true rfl)⟩ hK hH (fun q h => Or.inr h) Bl0 (fun _ _ _ => trivial) 10 0 rfl (mwc0 C A u) rfl hl.1 rfl (Nat.le_of_ble_eq_true rfl) dX10_number_19 (fun u16 H locs p18 hH => ?_)
      obtain ⟨hI, hUu16, p18⟩ := p18
      refine lv_iload_n hx hb dX10_number_22 rfl (lv_at hl 1 rfl) ?_
      exact hret _ _ _ _ (0 : Int32) _ dX10_number_23 rfl ⟨hI, (Un.tr Un.rf hUu16 rfl rfl rfl), ⟨by have q6 := (show (gi u16 6).toInt = ((gi u 6)).toInt from (congrArg Int32.toInt (show gi u16 6 = (gi u 6) from ((hUu16.1 6 rfl).trans rfl))).trans rfl); have q7 := (show (gi u16 7).toInt = ((gi u 7)).toInt from (congrArg Int32.toInt (show gi u16 7 = (gi u 7) from ((hUu16.1 7 rfl).trans rfl))).trans rfl); have q8 := (show (gi u16 8).toInt = ((gi u 8)).toInt from (congrArg Int32.toInt (show gi u16 8 = (gi u 8) from ((hUu16.1 8 rfl).trans rfl))).trans rfl); have q9 := (show (gi u16 9).toInt = ((gi u 9)).toInt from (congrArg Int32.toInt (show gi u16 9 = (gi u 9) from ((hUu16.1 9 rfl).trans rfl))).trans rfl); have q12 := (show (gi u16 12).toInt = ((gi u16 12)).toInt from (congrArg Int32.toInt (show gi u16 12 = (gi u16 12) from rfl)).trans rfl); omega, by have q6 := (show (gi u16 6).toInt = ((gi u 6)).toInt from (congrArg Int32.toInt (show gi u16 6 = (gi u 6) from ((hUu16.1 6 rfl).trans rfl))).trans rfl); have q7 := (show (gi u16 7).toInt = ((gi u 7)).toInt from (congrArg Int32.toInt (show gi u16 7 = (gi u 7) from ((hUu16.1 7 rfl).trans rfl))).trans rfl); have q8 := (show (gi u16 8).toInt = ((gi u 8)).toInt from (congrArg Int32.toInt (show gi u16 8 = (gi u 8) from ((hUu16.1 8 rfl).trans rfl))).trans rfl); have q9 := (show (gi u16 9).toInt = ((gi u 9)).toInt from (congrArg Int32.toInt (show gi u16 9 = (gi u 9) from ((hUu16.1 9 rfl).trans rfl))).trans rfl); have q12 := (show (gi u16 12).toInt = ((gi u16 12)).toInt from (congrArg Int32.toInt (show gi u16 12 = (gi u16 12) from rfl)).trans rfl); omega, ⟨by decide, by decide⟩⟩⟩ hH
  · refine lv_iload_n hx hb dX10_number_7 rfl (lv_at hl 1 rfl) ?_
    exact hret _ _ _ _ (0 : Int32) _ dX10_number_8 rfl ⟨hI, Un.rf, ⟨by have q6 := (show (gi u 6).toInt = ((gi u 6)).toInt from (congrArg Int32.toInt (show gi u 6 = (gi u 6) from rfl)).trans rfl); have q7 := (show (gi u 7).toInt = ((gi u 7)).toInt from (congrArg Int32.toInt (show gi u 7 = (gi u 7) from rfl)).trans rfl); have q8 := (show (gi u 8).toInt = ((gi u 8)).toInt from (congrArg Int32.toInt (show gi u 8 = (gi u 8) from rfl)).trans rfl); have q9 := (show (gi u 9).toInt = ((gi u 9)).toInt from (congrArg Int32.toInt (show gi u 9 = (gi u 9) from rfl)).trans rfl); have q12 := (show (gi u 12).toInt = ((gi u 12)).toInt from (congrArg Int32.toInt (show gi u 12 = (gi u 12) from rfl)).trans rfl); omega, by have q6 := (show (gi u 6).toInt = ((gi u 6)).toInt from (congrArg Int32.toInt (show gi u 6 = (gi u 6) from rfl)).trans rfl); have q7 := (show (gi u 7).toInt = ((gi u 7)).toInt from (congrArg Int32.toInt (show gi u 7 = (gi u 7) from rfl)).trans rfl); have q8 := (show (gi u 8).toInt = ((gi u 8)).toInt from (congrArg Int32.toInt (show gi u 8 = (gi u 8) from rfl)).trans rfl); have q9 := (show (gi u 9).toInt = ((gi u 9)).toInt from (congrArg Int32.toInt (show gi u 9 = (gi u 9) from rfl)).trans rfl); have q12 := (show (gi u 12).toInt = ((gi u 12)).toInt from (congrArg Int32.toInt (show gi u 12 = (gi u 12) from rfl)).trans rfl); omega, ⟨by decide, by decide⟩⟩⟩ hH
set_option maxHeartbeats 4000000 in
set_option maxRecDepth 100000 in
theorem kX10_number_2 (l : Launch) (D : va_G) (C : Nat → ClassId) (A : Nat → Nat) (u : St) (hI : IM u) (hPI : (gi u 9).toInt ≤ (gi u 7).toInt ∧ (gi u 7).toInt ≤ (gi u 6).toInt ∧ ((gi u 8).toInt = 0 ∨ (gi u 9).toInt < (gi u 7).toInt)) (sz : Nat) : MetI l yX10_number cX10_number 4 (some .int) 3 [.ref (A 0), .int 0, .int 999] D (tyl C) (mw C A) X0 u sz (fun r u' => IM u' ∧ Un [(7, 7), (8, 8), (9, 9), (10, 10), (12, 12), (13, 13)] [] [] u u' ∧ (((gi u' 9).toInt ≤ (gi u' 7).toInt ∧ (gi u' 7).toInt ≤ (gi u 6).toInt ∧ ((gi u' 8).toInt = 0 ∨ (gi u' 9).toInt < (gi u' 7).toInt)) ∧ (gi u 9).toInt ≤ (gi u' 9).toInt ∧ (0 ≤ r.toInt ∧ r.toInt ≤ 999))) := by
  refine mI (by decide) (Nat.le_of_ble_eq_true rfl) ?_
  intro p e s m below meth c ls ar Q hx hb hml hown hts hK hH hX hl hret
  have hown : s.vm.findClass RX10 = some m.cls := hown
  have hl : lv_has ls 4 [(0, .ref (A 0)), (1, .int 0), (2, .int 999)] := hl
  refine lv_aload_n hx hb dX10_number_0 rfl (lv_at hl 0 rfl) ?_
  refine va_get (ci := 10) (v := .int (gi u 12)) (C := RX10) (T := TX10) (N := 42) hx hb hts (fun w h => uc_in w (inX10 w h)) hown hK hH.1 0 (mwc0 C A u) rfl 12 (by decide) (hts _ (uc_in _ q_f1200)) (fun _ h9 => h9) rfl dX10_number_1 ?_
  refine lv_if_eq (tgt := 9) hx hb dX10_number_4 (by decide) (fun c1 => ?_) (fun c1 => ?_)
  · have c1 := cEQ (x := (gi u 12)) (y := 0) (X := ((gi u 12)).toInt) (Y := 0) rfl (by decide) c1
    refine lv_aload_n hx hb dX10_number_9 rfl (lv_at hl 0 rfl) ?_
    refine va_get (ci := 10) (v := .int (gi u 8)) (C := RX10) (T := TX10) (N := 42) hx hb hts (fun w h => uc_in w (inX10 w h)) hown hK hH.1 0 (mwc0 C A u) rfl 8 (by decide) (hts _ (uc_in _ q_f1196)) (fun _ h9 => h9) rfl dX10_number_10 ?_
    refine lv_iconst (v := 2) hx hb dX10_number_13 (by decide) ?_
    refine lv_icmp_eq (tgt := 24) hx hb dX10_number_14 (by decide) (fun c2 => ?_) (fun c2 => ?_)
    · have c2 := cEQ (x := (gi u 8)) (y := 2) (X := ((gi u 8)).toInt) (Y := 2) rfl (by decide) c2
      refine lv_aload_n hx hb dX10_number_24 rfl (lv_at hl 0 rfl) ?_
      refine va_get (ci := 10) (v := .int (gi u 10)) (C := RX10) (T := TX10) (N := 42) hx hb hts (fun w h => uc_in w (inX10 w h)) hown hK hH.1 0 (mwc0 C A u) rfl 10 (by decide) (hts _ (uc_in _ q_f1198)) (fun _ h9 => h9) rfl dX10_number_25 ?_
      refine lv_i2l (v := (gi u 10).toInt64) hx hb dX10_number_28 rfl ?_
      refine lv_iload_n hx hb dX10_number_29 rfl (lv_at hl 1 rfl) ?_
      refine lv_i2l (v := 0) hx hb dX10_number_30 (by decide) ?_
      refine lv_iload_n hx hb dX10_number_31 rfl (lv_at hl 2 rfl) ?_
      refine lv_i2l (v := 999) hx hb dX10_number_32 (by decide) ?_
      refine csS (n := 3) (As := [.long ((gi u 10).toInt64), .long 0, .long 999]) (rest := []) ⟨hx, hb, hml, hown, hts⟩ uc_in (kX10_in_0 l D C A u hI ((gi u 10).toInt64) (((gi u 10)).toInt) (tt_i2l rfl) (0) 0 (by decide) (999) 999 (by decide)) q_m1324 q_s1325 q_i11 q_c1326 hvX10_in ⟨(Nat.le_of_ble_eq_true rfl), (Nat.le_of_ble_eq_true rfl)⟩ ⟨(Nat.le_of_ble_eq_true rfl), (Nat.le_of_ble_eq_true rfl)⟩ hK hH.1 rfl hl.1 rfl (Nat.le_of_ble_eq_true rfl) dX10_number_33 (fun r3 p4 => ?_)
      rcases p4 with ⟨e9, f5, f6⟩ | ⟨e9, fn7⟩
      · subst e9
        refine lv_if_ne (tgt := 46) hx hb dX10_number_36 (by decide) (fun c8 => ?_) (fun c8 => absurd c8 (by decide))
        refine lv_aload_n hx hb dX10_number_46 rfl (lv_at hl 0 rfl) ?_
        refine va_get (ci := 10) (v := .int (gi u 10)) (C := RX10) (T := TX10) (N := 42) hx hb hts (fun w h => uc_in w (inX10 w h)) hown hK hH.1 0 (mwc0 C A u) rfl 10 (by decide) (hts _ (uc_in _ q_f1198)) (fun _ h9 => h9) rfl dX10_number_47 ?_
        refine lv_istore_n (lv' := [(3, .int (gi u 10)), (0, .ref (A 0)), (1, .int 0), (2, .int 999)]) hx hb dX10_number_50 rfl hl (by decide) rfl (fun ls hl => ?_)
        refine lv_aload_n hx hb dX10_number_51 rfl (lv_at hl 1 rfl) ?_
        refine cvU (n := 0) (As := []) (rest := []) ⟨hx, hb, hml, hown, hts⟩ uc_in (kX10_next_0 l D C A u hI (by have q5 := hI.b6; omega) _) q_m1370 q_n1372 q_p55 q_i11 q_c1373 hvX10_next ⟨(Nat.le_of_ble_eq_true rfl), (Nat.le_of_ble_eq_true rfl)⟩ ⟨(Nat.le_of_ble_eq_true rfl), (Nat.le_of_ble_eq_true rfl)⟩ hK hH (fun q h => Or.inr h) Bl0 (fun _ _ _ => trivial) 10 0 rfl (mwc0 C A u) rfl hl.1 rfl (Nat.le_of_ble_eq_true rfl) dX10_number_52 (fun u9 H locs p11 hH => ?_)
        obtain ⟨hI, hUu9, p11⟩ := p11
        refine lv_iload_n hx hb dX10_number_55 rfl (lv_at hl 0 rfl) ?_
        exact hret _ _ _ _ (gi u 10) _ dX10_number_56 rfl ⟨hI, (Un.tr Un.rf hUu9 rfl rfl rfl), ⟨by have q6 := (show (gi u9 6).toInt = ((gi u 6)).toInt from (congrArg Int32.toInt (show gi u9 6 = (gi u 6) from ((hUu9.1 6 rfl).trans rfl))).trans rfl); have q7 := (show (gi u9 7).toInt = ((gi u9 7)).toInt from (congrArg Int32.toInt (show gi u9 7 = (gi u9 7) from rfl)).trans rfl); have q8 := (show (gi u9 8).toInt = ((gi u9 8)).toInt from (congrArg Int32.toInt (show gi u9 8 = (gi u9 8) from rfl)).trans rfl); have q9 := (show (gi u9 9).toInt = ((gi u9 9)).toInt from (congrArg Int32.toInt (show gi u9 9 = (gi u9 9) from rfl)).trans rfl); have q12 := (show (gi u9 12).toInt = ((gi u 12)).toInt from (congrArg Int32.toInt (show gi u9 12 = (gi u 12) from ((hUu9.1 12 rfl).trans rfl))).trans rfl); omega, by have q6 := (show (gi u9 6).toInt = ((gi u 6)).toInt from (congrArg Int32.toInt (show gi u9 6 = (gi u 6) from ((hUu9.1 6 rfl).trans rfl))).trans rfl); have q7 := (show (gi u9 7).toInt = ((gi u9 7)).toInt from (congrArg Int32.toInt (show gi u9 7 = (gi u9 7) from rfl)).trans rfl); have q8 := (show (gi u9 8).toInt = ((gi u9 8)).toInt from (congrArg Int32.toInt (show gi u9 8 = (gi u9 8) from rfl)).trans rfl); have q9 := (show (gi u9 9).toInt = ((gi u9 9)).toInt from (congrArg Int32.toInt (show gi u9 9 = (gi u9 9) from rfl)).trans rfl); have q12 := (show (gi u9 12).toInt = ((gi u 12)).toInt from (congrArg Int32.toInt (show gi u9 12 = (gi u 12) from ((hUu9.1 12 rfl).trans rfl))).trans rfl); omega, ⟨by have q9 := (show (gi u 10).toInt = ((gi u 10)).toInt from rfl); omega, by have q9 := (show (gi u 10).toInt = ((gi u 10)).toInt from rfl); omega⟩⟩⟩ hH
      · subst e9
        refine lv_if_ne (tgt := 46) hx hb dX10_number_36 (by decide) (fun c12 => absurd c12 (by decide)) (fun c12 => ?_)
        refine lv_aload_n hx hb dX10_number_39 rfl (lv_at hl 0 rfl) ?_
        refine lv_iconst (v := 2) hx hb dX10_number_40 (by decide) ?_
        refine cvU (n := 1) (As := [.int 2]) (rest := []) ⟨hx, hb, hml, hown, hts⟩ uc_in (kX10_fails_2 l D C A u hI  _) q_m1400 q_n1402 q_p61 q_i11 q_c1403 hvX10_fails ⟨(Nat.le_of_ble_eq_true rfl), (Nat.le_of_ble_eq_true rfl)⟩ ⟨(Nat.le_of_ble_eq_true rfl), (Nat.le_of_ble_eq_true rfl)⟩ hK hH (fun q h => Or.inr h) Bl0 (fun _ _ _ => trivial) 10 0 rfl (mwc0 C A u) rfl hl.1 rfl (Nat.le_of_ble_eq_true rfl) dX10_number_41 (fun u13 H locs p15 hH => ?_)
        obtain ⟨hI, hUu13, p15⟩ := p15
        refine lv_iload_n hx hb dX10_number_44 rfl (lv_at hl 1 rfl) ?_
        exact hret _ _ _ _ (0 : Int32) _ dX10_number_45 rfl ⟨hI, (Un.tr Un.rf hUu13 rfl rfl rfl), ⟨by have q6 := (show (gi u13 6).toInt = ((gi u 6)).toInt from (congrArg Int32.toInt (show gi u13 6 = (gi u 6) from ((hUu13.1 6 rfl).trans rfl))).trans rfl); have q7 := (show (gi u13 7).toInt = ((gi u 7)).toInt from (congrArg Int32.toInt (show gi u13 7 = (gi u 7) from ((hUu13.1 7 rfl).trans rfl))).trans rfl); have q8 := (show (gi u13 8).toInt = ((gi u 8)).toInt from (congrArg Int32.toInt (show gi u13 8 = (gi u 8) from ((hUu13.1 8 rfl).trans rfl))).trans rfl); have q9 := (show (gi u13 9).toInt = ((gi u 9)).toInt from (congrArg Int32.toInt (show gi u13 9 = (gi u 9) from ((hUu13.1 9 rfl).trans rfl))).trans rfl); have q12 := (show (gi u13 12).toInt = ((gi u13 12)).toInt from (congrArg Int32.toInt (show gi u13 12 = (gi u13 12) from rfl)).trans rfl); omega, by have q6 := (show (gi u13 6).toInt = ((gi u 6)).toInt from (congrArg Int32.toInt (show gi u13 6 = (gi u 6) from ((hUu13.1 6 rfl).trans rfl))).trans rfl); have q7 := (show (gi u13 7).toInt = ((gi u 7)).toInt from (congrArg Int32.toInt (show gi u13 7 = (gi u 7) from ((hUu13.1 7 rfl).trans rfl))).trans rfl); have q8 := (show (gi u13 8).toInt = ((gi u 8)).toInt from (congrArg Int32.toInt (show gi u13 8 = (gi u 8) from ((hUu13.1 8 rfl).trans rfl))).trans rfl); have q9 := (show (gi u13 9).toInt = ((gi u 9)).toInt from (congrArg Int32.toInt (show gi u13 9 = (gi u 9) from ((hUu13.1 9 rfl).trans rfl))).trans rfl); have q12 := (show (gi u13 12).toInt = ((gi u13 12)).toInt from (congrArg Int32.toInt (show gi u13 12 = (gi u13 12) from rfl)).trans rfl); omega, ⟨by decide, by decide⟩⟩⟩ hH
    · refine lv_aload_n hx hb dX10_number_17 rfl (lv_at hl 0 rfl) ?_
      refine lv_iconst (v := 1) hx hb dX10_number_18 (by decide) ?_
      refine cvU (n := 1) (As := [.int 1]) (rest := []) ⟨hx, hb, hml, hown, hts⟩ uc_in (kX10_fails_1 l D C A u hI  _) q_m1400 q_n1402 q_p61 q_i11 q_c1403 hvX10_fails ⟨(Nat.le_of_ble_eq_true rfl), (Nat.le_of_ble_eq_true rfl)⟩ ⟨(Nat.le_of_ble_eq_true rfl), (Nat.le_of_ble_eq_true rfl)⟩ hK hH (fun q h => Or.inr h) Bl0 (fun _ _ _ => trivial) 10 0 rfl (mwc0 C A u) rfl hl.1 rfl (Nat.le_of_ble_eq_true rfl) dX10_number_19 (fun u16 H locs p18 hH => ?_)
      obtain ⟨hI, hUu16, p18⟩ := p18
      refine lv_iload_n hx hb dX10_number_22 rfl (lv_at hl 1 rfl) ?_
      exact hret _ _ _ _ (0 : Int32) _ dX10_number_23 rfl ⟨hI, (Un.tr Un.rf hUu16 rfl rfl rfl), ⟨by have q6 := (show (gi u16 6).toInt = ((gi u 6)).toInt from (congrArg Int32.toInt (show gi u16 6 = (gi u 6) from ((hUu16.1 6 rfl).trans rfl))).trans rfl); have q7 := (show (gi u16 7).toInt = ((gi u 7)).toInt from (congrArg Int32.toInt (show gi u16 7 = (gi u 7) from ((hUu16.1 7 rfl).trans rfl))).trans rfl); have q8 := (show (gi u16 8).toInt = ((gi u 8)).toInt from (congrArg Int32.toInt (show gi u16 8 = (gi u 8) from ((hUu16.1 8 rfl).trans rfl))).trans rfl); have q9 := (show (gi u16 9).toInt = ((gi u 9)).toInt from (congrArg Int32.toInt (show gi u16 9 = (gi u 9) from ((hUu16.1 9 rfl).trans rfl))).trans rfl); have q12 := (show (gi u16 12).toInt = ((gi u16 12)).toInt from (congrArg Int32.toInt (show gi u16 12 = (gi u16 12) from rfl)).trans rfl); omega, by have q6 := (show (gi u16 6).toInt = ((gi u 6)).toInt from (congrArg Int32.toInt (show gi u16 6 = (gi u 6) from ((hUu16.1 6 rfl).trans rfl))).trans rfl); have q7 := (show (gi u16 7).toInt = ((gi u 7)).toInt from (congrArg Int32.toInt (show gi u16 7 = (gi u 7) from ((hUu16.1 7 rfl).trans rfl))).trans rfl); have q8 := (show (gi u16 8).toInt = ((gi u 8)).toInt from (congrArg Int32.toInt (show gi u16 8 = (gi u 8) from ((hUu16.1 8 rfl).trans rfl))).trans rfl); have q9 := (show (gi u16 9).toInt = ((gi u 9)).toInt from (congrArg Int32.toInt (show gi u16 9 = (gi u 9) from ((hUu16.1 9 rfl).trans rfl))).trans rfl); have q12 := (show (gi u16 12).toInt = ((gi u16 12)).toInt from (congrArg Int32.toInt (show gi u16 12 = (gi u16 12) from rfl)).trans rfl); omega, ⟨by decide, by decide⟩⟩⟩ hH
  · refine lv_iload_n hx hb dX10_number_7 rfl (lv_at hl 1 rfl) ?_
    exact hret _ _ _ _ (0 : Int32) _ dX10_number_8 rfl ⟨hI, Un.rf, ⟨by have q6 := (show (gi u 6).toInt = ((gi u 6)).toInt from (congrArg Int32.toInt (show gi u 6 = (gi u 6) from rfl)).trans rfl); have q7 := (show (gi u 7).toInt = ((gi u 7)).toInt from (congrArg Int32.toInt (show gi u 7 = (gi u 7) from rfl)).trans rfl); have q8 := (show (gi u 8).toInt = ((gi u 8)).toInt from (congrArg Int32.toInt (show gi u 8 = (gi u 8) from rfl)).trans rfl); have q9 := (show (gi u 9).toInt = ((gi u 9)).toInt from (congrArg Int32.toInt (show gi u 9 = (gi u 9) from rfl)).trans rfl); have q12 := (show (gi u 12).toInt = ((gi u 12)).toInt from (congrArg Int32.toInt (show gi u 12 = (gi u 12) from rfl)).trans rfl); omega, by have q6 := (show (gi u 6).toInt = ((gi u 6)).toInt from (congrArg Int32.toInt (show gi u 6 = (gi u 6) from rfl)).trans rfl); have q7 := (show (gi u 7).toInt = ((gi u 7)).toInt from (congrArg Int32.toInt (show gi u 7 = (gi u 7) from rfl)).trans rfl); have q8 := (show (gi u 8).toInt = ((gi u 8)).toInt from (congrArg Int32.toInt (show gi u 8 = (gi u 8) from rfl)).trans rfl); have q9 := (show (gi u 9).toInt = ((gi u 9)).toInt from (congrArg Int32.toInt (show gi u 9 = (gi u 9) from rfl)).trans rfl); have q12 := (show (gi u 12).toInt = ((gi u 12)).toInt from (congrArg Int32.toInt (show gi u 12 = (gi u 12) from rfl)).trans rfl); omega, ⟨by decide, by decide⟩⟩⟩ hH
set_option maxHeartbeats 4000000 in
set_option maxRecDepth 100000 in
theorem kX10_number__1 (l : Launch) (D : va_G) (C : Nat → ClassId) (A : Nat → Nat) (u : St) (hI : IM u) (a0 : Int64) (A0 : Int) (ha0 : a0.toInt = A0) (hPI : (gi u 9).toInt ≤ (gi u 7).toInt ∧ (gi u 7).toInt ≤ (gi u 6).toInt ∧ ((gi u 8).toInt = 0 ∨ (gi u 9).toInt < (gi u 7).toInt)) (sz : Nat) : MetI l yX10_number_ cX10_number_ 5 (some .int) 5 [.ref (A 0), .long a0, .int 0, .int 999] D (tyl C) (mw C A) X0 u sz (fun r u' => IM u' ∧ Un [(7, 7), (8, 8), (9, 9), (10, 10), (12, 12), (13, 13)] [] [] u u' ∧ (((gi u' 9).toInt ≤ (gi u' 7).toInt ∧ (gi u' 7).toInt ≤ (gi u 6).toInt ∧ ((gi u' 8).toInt = 0 ∨ (gi u' 9).toInt < (gi u' 7).toInt)) ∧ (gi u 9).toInt ≤ (gi u' 9).toInt ∧ (0 ≤ r.toInt ∧ r.toInt ≤ 999))) := by
  refine mI (by decide) (Nat.le_of_ble_eq_true rfl) ?_
  intro p e s m below meth c ls ar Q hx hb hml hown hts hK hH hX hl hret
  have hown : s.vm.findClass RX10 = some m.cls := hown
  have hl : lv_has ls 5 [(0, .ref (A 0)), (1, .long a0), (3, .int 0), (4, .int 999)] := hl
  refine lv_aload_n hx hb dX10_number__0 rfl (lv_at hl 0 rfl) ?_
  refine lv_lload_n hx hb dX10_number__1 rfl (lv_at hl 1 rfl) ?_
  refine cvU (n := 1) (As := [.long a0]) (rest := []) ⟨hx, hb, hml, hown, hts⟩ uc_in (kX10_asks_0 l D C A u hI a0 A0 ha0 (by omega) _) q_m1388 q_n1390 q_p58 q_i11 q_c1391 hvX10_asks ⟨(Nat.le_of_ble_eq_true rfl), (Nat.le_of_ble_eq_true rfl)⟩ ⟨(Nat.le_of_ble_eq_true rfl), (Nat.le_of_ble_eq_true rfl)⟩ hK hH (fun q h => Or.inr h) Bl0 (fun _ _ _ => trivial) 10 0 rfl (mwc0 C A u) rfl hl.1 rfl (Nat.le_of_ble_eq_true rfl) dX10_number__2 (fun u1 H locs p3 hH => ?_)
  obtain ⟨hI, hUu1, p3⟩ := p3
  obtain ⟨f4, f5⟩ := p3
  refine lv_aload_n hx hb dX10_number__5 rfl (lv_at hl 0 rfl) ?_
  refine lv_iload_n hx hb dX10_number__6 rfl (lv_at hl 2 rfl) ?_
  refine lv_iload hx hb dX10_number__7 (lv_at hl 3 rfl) ?_
  have q7 := (show (gi u1 6).toInt = ((gi u 6)).toInt from (congrArg Int32.toInt (show gi u1 6 = (gi u 6) from ((hUu1.1 6 rfl).trans rfl))).trans rfl)
  refine cvI (n := 2) (As := [.int 0, .int 999]) (rest := []) ⟨hx, hb, hml, hown, hts⟩ uc_in (kX10_number_2 l D C A u1 hI (by omega) _) q_m1409 q_n1411 q_p63 q_i11 q_c1412 hvX10_number ⟨(Nat.le_of_ble_eq_true rfl), (Nat.le_of_ble_eq_true rfl)⟩ ⟨(Nat.le_of_ble_eq_true rfl), (Nat.le_of_ble_eq_true rfl)⟩ hK hH (fun q h => Or.inr h) Bl0 (fun _ _ _ => trivial) 10 0 rfl (mwc0 C A u1) rfl hl.1 rfl (Nat.le_of_ble_eq_true rfl) dX10_number__9 (fun r9 u8 H locs p10 hH => ?_)
  obtain ⟨hI, hUu8, p10⟩ := p10
  obtain ⟨f11, f12, f13⟩ := p10
  exact hret _ _ _ _ r9 _ dX10_number__12 rfl ⟨hI, (Un.tr (Un.tr Un.rf hUu1 rfl rfl rfl) hUu8 rfl rfl rfl), ⟨by have q6 := (show (gi u8 6).toInt = ((gi u 6)).toInt from (congrArg Int32.toInt (show gi u8 6 = (gi u 6) from ((hUu8.1 6 rfl).trans ((hUu1.1 6 rfl).trans rfl)))).trans rfl); have q7 := (show (gi u8 7).toInt = ((gi u8 7)).toInt from (congrArg Int32.toInt (show gi u8 7 = (gi u8 7) from rfl)).trans rfl); have q8 := (show (gi u8 8).toInt = ((gi u8 8)).toInt from (congrArg Int32.toInt (show gi u8 8 = (gi u8 8) from rfl)).trans rfl); have q9 := (show (gi u8 9).toInt = ((gi u8 9)).toInt from (congrArg Int32.toInt (show gi u8 9 = (gi u8 9) from rfl)).trans rfl); have q12 := (show (gi u8 12).toInt = ((gi u8 12)).toInt from (congrArg Int32.toInt (show gi u8 12 = (gi u8 12) from rfl)).trans rfl); omega, by have q6 := (show (gi u8 6).toInt = ((gi u 6)).toInt from (congrArg Int32.toInt (show gi u8 6 = (gi u 6) from ((hUu8.1 6 rfl).trans ((hUu1.1 6 rfl).trans rfl)))).trans rfl); have q7 := (show (gi u8 7).toInt = ((gi u8 7)).toInt from (congrArg Int32.toInt (show gi u8 7 = (gi u8 7) from rfl)).trans rfl); have q8 := (show (gi u8 8).toInt = ((gi u8 8)).toInt from (congrArg Int32.toInt (show gi u8 8 = (gi u8 8) from rfl)).trans rfl); have q9 := (show (gi u8 9).toInt = ((gi u8 9)).toInt from (congrArg Int32.toInt (show gi u8 9 = (gi u8 9) from rfl)).trans rfl); have q12 := (show (gi u8 12).toInt = ((gi u8 12)).toInt from (congrArg Int32.toInt (show gi u8 12 = (gi u8 12) from rfl)).trans rfl); omega, ⟨by have q9 := (show r9.toInt = r9.toInt from rfl); omega, by have q9 := (show r9.toInt = r9.toInt from rfl); omega⟩⟩⟩ hH
set_option maxHeartbeats 4000000 in
set_option maxRecDepth 100000 in
theorem kX10_tells_2 (l : Launch) (D : va_G) (C : Nat → ClassId) (A : Nat → Nat) (u : St) (hI : IM u) (a1 : Int32) (A1 : Int) (ha1 : a1.toInt = A1) (hl1 : 0 ≤ A1) (hm1 : A1 ≤ 6) (sz : Nat) : MetV l yX10_tells cX10_tells 3 1 [.ref (A 0), .int 3, .int a1] D (tyl C) (mw C A) X0 u sz (fun u' => IM u' ∧ Un [] [(7, 7)] [] u u' ∧ True) := by
  refine mV (by decide) (Nat.le_of_ble_eq_true rfl) ?_
  intro p e s m below meth c ls ar Q hx hb hml hown hts hK hH hX hl hret
  have hown : s.vm.findClass RX10 = some m.cls := hown
  have hl : lv_has ls 3 [(0, .ref (A 0)), (1, .int 3), (2, .int a1)] := hl
  refine lv_aload_n hx hb dX10_tells_0 rfl (lv_at hl 0 rfl) ?_
  refine va_get (ci := 10) (v := .ref (A 7)) (C := RX10) (T := TX10) (N := 42) hx hb hts (fun w h => uc_in w (inX10 w h)) hown hK hH.1 0 (mwc0 C A u) rfl 17 (by decide) (hts _ (uc_in _ q_f1205)) (fun _ h9 => h9) rfl dX10_tells_1 ?_
  refine lv_bipush (v := 24) hx hb dX10_tells_4 (by decide) ?_
  refine lv_iload_n hx hb dX10_tells_6 rfl (lv_at hl 1 rfl) ?_
  refine lv_iadd hx hb dX10_tells_7 ?_
  refine pv_i (v := 27) (by decide) ?_
  refine lv_iload_n hx hb dX10_tells_8 rfl (lv_at hl 2 rfl) ?_
  refine r_iast (j := 7) hx hb hK hH 7 1 (mwc7 C A u) rfl (i_ix (X := 27) (by decide) (by decide) (by decide)) (mwa7 C A u) dX10_tells_9 (fun u1 eu1 H locs hH => ?_)
  have hI := hI.pah eu1 ha1 (by omega) (show A1 ≤ 6 by omega)
  exact hret _ _ _ _ _ dX10_tells_10 ⟨hI, (Un.sa Un.rf rfl eu1), trivial⟩ hH
set_option maxHeartbeats 4000000 in
set_option maxRecDepth 100000 in
theorem kX10_clockLine_0 (l : Launch) (D : va_G) (C : Nat → ClassId) (A : Nat → Nat) (u : St) (hI : IM u) (hPI : (gi u 9).toInt ≤ (gi u 7).toInt ∧ (gi u 7).toInt ≤ (gi u 6).toInt ∧ ((gi u 8).toInt = 0 ∨ (gi u 9).toInt < (gi u 7).toInt)) (hH5 : 0 ≤ (ga u 7 27).toInt ∧ (ga u 7 27).toInt ≤ 5) (sz : Nat) : MetV l yX10_clockLine cX10_clockLine 6 6 [.ref (A 0)] D (tyl C) (mw C A) X0 u sz (fun u' => IM u' ∧ Un [(7, 7), (8, 8), (9, 9), (10, 10), (12, 12), (13, 13)] [(7, 7), (8, 8)] [] u u' ∧ ((gi u' 9).toInt ≤ (gi u' 7).toInt ∧ (gi u' 7).toInt ≤ (gi u 6).toInt ∧ ((gi u' 8).toInt = 0 ∨ (gi u' 9).toInt < (gi u' 7).toInt)) ∧ (gi u 9).toInt ≤ (gi u' 9).toInt) := by
  refine mV (by decide) (Nat.le_of_ble_eq_true rfl) ?_
  intro p e s m below meth c ls ar Q hx hb hml hown hts hK hH hX hl hret
  have hown : s.vm.findClass RX10 = some m.cls := hown
  have hl : lv_has ls 6 [(0, .ref (A 0))] := hl
  refine lv_iconst (v := 5) hx hb dX10_clockLine_0 (by decide) ?_
  refine lv_bipush (v := 24) hx hb dX10_clockLine_1 (by decide) ?_
  refine lv_aload_n hx hb dX10_clockLine_3 rfl (lv_at hl 0 rfl) ?_
  refine lv_iconst (v := 3) hx hb dX10_clockLine_4 (by decide) ?_
  refine cvS (n := 1) (As := [.int 3]) (rest := [.int 24, .int 5]) ⟨hx, hb, hml, hown, hts⟩ uc_in (kX10_hasRead_0 l D C A u hI ) q_m1424 q_n1426 q_p66 q_i11 q_c1427 hvX10_hasRead ⟨(Nat.le_of_ble_eq_true rfl), (Nat.le_of_ble_eq_true rfl)⟩ ⟨(Nat.le_of_ble_eq_true rfl), (Nat.le_of_ble_eq_true rfl)⟩ hK hH.1 10 0 rfl (mwc0 C A u) rfl hl.1 rfl (Nat.le_of_ble_eq_true rfl) dX10_clockLine_5 (fun r1 p2 => ?_)
  subst p2
  refine lv_iadd hx hb dX10_clockLine_8 ?_
  refine p_nm (tt_add (X := 24) (Y := ((ga u 7 27)).toInt) (by decide) rfl (by omega) (by omega)) (fun z3 hz3 => ?_)
  refine lv_imul hx hb dX10_clockLine_9 ?_
  refine p_nm (tt_mul (X := 5) (Y := (24 + ((ga u 7 27)).toInt)) (by decide) hz3 (by omega) (by omega)) (fun z4 hz4 => ?_)
  refine lv_istore_n (lv' := [(1, .int z4), (0, .ref (A 0))]) hx hb dX10_clockLine_10 rfl hl (by decide) rfl (fun ls hl => ?_)
  refine lv_aload_n hx hb dX10_clockLine_11 rfl (lv_at hl 1 rfl) ?_
  refine va_get (ci := 10) (v := .ref (A 8)) (C := RX10) (T := TX10) (N := 42) hx hb hts (fun w h => uc_in w (inX10 w h)) hown hK hH.1 0 (mwc0 C A u) rfl 18 (by decide) (hts _ (uc_in _ q_f1206)) (fun _ h9 => h9) rfl dX10_clockLine_12 ?_
  refine lv_iload_n hx hb dX10_clockLine_15 rfl (lv_at hl 0 rfl) ?_
  refine lv_aload_n hx hb dX10_clockLine_16 rfl (lv_at hl 1 rfl) ?_
  refine lv_ldc2 (v := 47) hx hb hown (hts _ (uc_in _ q_k1432)) dX10_clockLine_17 ?_
  refine lv_iconst (v := 0) hx hb dX10_clockLine_20 (by decide) ?_
  refine lv_bipush (v := 9) hx hb dX10_clockLine_21 (by decide) ?_
  refine cvI (n := 3) (As := [.long 47, .int 0, .int 9]) (rest := [.int z4, .ref (A 8)]) ⟨hx, hb, hml, hown, hts⟩ uc_in (kX10_number__0 l D C A u hI (47) 47 (by decide) (by omega) _) q_m1405 q_n1407 q_p62 q_i11 q_c1408 hvX10_number_ ⟨(Nat.le_of_ble_eq_true rfl), (Nat.le_of_ble_eq_true rfl)⟩ ⟨(Nat.le_of_ble_eq_true rfl), (Nat.le_of_ble_eq_true rfl)⟩ hK hH (fun q h => Or.inr h) Bl0 (fun _ _ _ => trivial) 10 0 rfl (mwc0 C A u) rfl hl.1 rfl (Nat.le_of_ble_eq_true rfl) dX10_clockLine_23 (fun r6 u5 H locs p7 hH => ?_)
  obtain ⟨hI, hUu5, p7⟩ := p7
  obtain ⟨f8, f9, f10⟩ := p7
  refine r_iast (j := 8) hx hb hK hH 8 1 (mwc8 C A u5) rfl (i_ix hz4 (by omega) (by omega)) (mwa8 C A u5) dX10_clockLine_26 (fun u11 eu11 H locs hH => ?_)
  have hI := hI.pa0 eu11 (by decide) (by decide) (by decide)
  refine lv_aload_n hx hb dX10_clockLine_27 rfl (lv_at hl 1 rfl) ?_
  refine va_get (ci := 10) (v := .int (gi u11 12)) (C := RX10) (T := TX10) (N := 42) hx hb hts (fun w h => uc_in w (inX10 w h)) hown hK hH.1 0 (mwc0 C A u11) rfl 12 (by decide) (hts _ (uc_in _ q_f1200)) (fun _ h9 => h9) rfl dX10_clockLine_28 ?_
  refine pv_i (v := (gi u5 12)) ((gi_sa eu11).trans rfl) ?_
  have j49_126 : ∀ (ls : Array Slot) (y26d : Int32) (u126 : St) (H : Heap) (locs : List Loc), 0 ≤ y26d.toInt → y26d.toInt ≤ 1 → ((gi u126 9).toInt ≤ (gi u126 7).toInt ∧ (gi u126 7).toInt ≤ ((gi u 6)).toInt ∧ ((gi u126 8).toInt = 0 ∨ (gi u126 9).toInt < (gi u126 7).toInt)) ∧ ((gi u5 9)).toInt ≤ (gi u126 9).toInt → Un [(7, 7), (8, 8), (9, 9), (10, 10)] [] [] u11 u126 → IM u126 → Hd D (mw C A) (va_A (mw C A u) s.heap.size) s.heap u126 H locs → lv_has ls 6 [(1, .int z4), (0, .ref (A 0))] → W p l e (rmL 6 0 0) s m ar below meth c H locs 0 0 Q (F0 m 49 ls [.int y26d]) := by
    intro ls y26d u126 H locs ly26d my26d x49_0 hUu126 hI hH hl
    refine lv_istore_n (lv' := [(2, .int y26d), (1, .int z4), (0, .ref (A 0))]) hx hb dX10_clockLine_49 rfl hl (by decide) rfl (fun ls hl => ?_)
    refine lv_iload_n hx hb dX10_clockLine_50 rfl (lv_at hl 0 rfl) ?_
    have j61_226 : ∀ (ls : Array Slot) (u226 : St) (H : Heap) (locs : List Loc), ((gi u226 9).toInt ≤ (gi u226 7).toInt ∧ (gi u226 7).toInt ≤ ((gi u 6)).toInt ∧ ((gi u226 8).toInt = 0 ∨ (gi u226 9).toInt < (gi u226 7).toInt)) ∧ ((gi u126 9)).toInt ≤ (gi u226 9).toInt → Un [(7, 7), (8, 8), (9, 9), (10, 10), (12, 12), (13, 13)] [] [] u126 u226 → IM u226 → Hd D (mw C A) (va_A (mw C A u) s.heap.size) s.heap u226 H locs → lv_has ls 6 [(2, .int y26d), (1, .int z4), (0, .ref (A 0))] → W p l e (rmL 6 0 0) s m ar below meth c H locs 0 0 Q (F0 m 61 ls []) := by
      intro ls u226 H locs x61_0 hUu226 hI hH hl
      refine lv_aload_n hx hb dX10_clockLine_61 rfl (lv_at hl 2 rfl) ?_
      refine lv_iconst (v := 0) hx hb dX10_clockLine_62 (by decide) ?_
      refine lv_bipush (v := 60) hx hb dX10_clockLine_63 (by decide) ?_
      have q228 := (show (gi u226 6).toInt = ((gi u 6)).toInt from (congrArg Int32.toInt (show gi u226 6 = (gi u 6) from ((hUu226.1 6 rfl).trans ((hUu126.1 6 rfl).trans ((gi_sa eu11).trans ((hUu5.1 6 rfl).trans rfl)))))).trans rfl)
      refine cvI (n := 2) (As := [.int 0, .int 60]) (rest := []) ⟨hx, hb, hml, hown, hts⟩ uc_in (kX10_number_1 l D C A u226 hI (by omega) _) q_m1409 q_n1411 q_p63 q_i11 q_c1412 hvX10_number ⟨(Nat.le_of_ble_eq_true rfl), (Nat.le_of_ble_eq_true rfl)⟩ ⟨(Nat.le_of_ble_eq_true rfl), (Nat.le_of_ble_eq_true rfl)⟩ hK hH (fun q h => Or.inr h) Bl0 (fun _ _ _ => trivial) 10 0 rfl (mwc0 C A u226) rfl hl.1 rfl (Nat.le_of_ble_eq_true rfl) dX10_clockLine_65 (fun r230 u229 H locs p231 hH => ?_)
      obtain ⟨hI, hUu229, p231⟩ := p231
      obtain ⟨f232, f233, f234⟩ := p231
      refine lv_istore_n (lv' := [(3, .int r230), (2, .int y26d), (1, .int z4), (0, .ref (A 0))]) hx hb dX10_clockLine_68 rfl hl (by decide) rfl (fun ls hl => ?_)
      refine lv_aload_n hx hb dX10_clockLine_69 rfl (lv_at hl 3 rfl) ?_
      refine va_get (ci := 10) (v := .ref (A 8)) (C := RX10) (T := TX10) (N := 42) hx hb hts (fun w h => uc_in w (inX10 w h)) hown hK hH.1 0 (mwc0 C A u229) rfl 18 (by decide) (hts _ (uc_in _ q_f1206)) (fun _ h9 => h9) rfl dX10_clockLine_70 ?_
      refine lv_iload_n hx hb dX10_clockLine_73 rfl (lv_at hl 2 rfl) ?_
      refine lv_iconst (v := 1) hx hb dX10_clockLine_74 (by decide) ?_
      refine lv_iadd hx hb dX10_clockLine_75 ?_
      refine p_nm (tt_add (X := (5 * (24 + ((ga u 7 27)).toInt))) (Y := 1) hz4 (by decide) (by omega) (by omega)) (fun z235 hz235 => ?_)
      refine lv_iload_n hx hb dX10_clockLine_76 rfl (lv_at hl 1 rfl) ?_
      have j86_315 : ∀ (ls : Array Slot) (y238d : Int32), (-60) ≤ y238d.toInt → y238d.toInt ≤ 60 → lv_has ls 6 [(1, .int z4), (0, .ref (A 0))] → W p l e (rmL 6 0 0) s m ar below meth c H locs 0 0 Q (F0 m 86 ls [.int y238d, .int z235, .ref (A 8)]) := by
        intro ls y238d ly238d my238d hl
        refine r_iast (j := 8) hx hb hK hH 8 1 (mwc8 C A u229) rfl (i_ix hz235 (by omega) (by omega)) (mwa8 C A u229) dX10_clockLine_86 (fun u317 eu317 H locs hH => ?_)
        have hI := hI.pa0 eu317 (by decide) (by decide) (by decide)
        refine lv_aload_n hx hb dX10_clockLine_87 rfl (lv_at hl 1 rfl) ?_
        refine va_get (ci := 10) (v := .int (gi u317 12)) (C := RX10) (T := TX10) (N := 42) hx hb hts (fun w h => uc_in w (inX10 w h)) hown hK hH.1 0 (mwc0 C A u317) rfl 12 (by decide) (hts _ (uc_in _ q_f1200)) (fun _ h9 => h9) rfl dX10_clockLine_88 ?_
        refine pv_i (v := (gi u229 12)) ((gi_sa eu317).trans rfl) ?_
        have j109_394 : ∀ (ls : Array Slot) (y332d : Int32) (u394 : St) (H : Heap) (locs : List Loc), 0 ≤ y332d.toInt → y332d.toInt ≤ 1 → ((gi u394 9).toInt ≤ (gi u394 7).toInt ∧ (gi u394 7).toInt ≤ ((gi u 6)).toInt ∧ ((gi u394 8).toInt = 0 ∨ (gi u394 9).toInt < (gi u394 7).toInt)) ∧ ((gi u229 9)).toInt ≤ (gi u394 9).toInt → Un [(7, 7), (8, 8), (9, 9), (10, 10)] [] [] u317 u394 → IM u394 → Hd D (mw C A) (va_A (mw C A u) s.heap.size) s.heap u394 H locs → lv_has ls 6 [(1, .int z4), (0, .ref (A 0))] → W p l e (rmL 6 0 0) s m ar below meth c H locs 0 0 Q (F0 m 109 ls [.int y332d]) := by
          intro ls y332d u394 H locs ly332d my332d x109_0 hUu394 hI hH hl
          refine lv_istore (lv' := [(4, .int y332d), (1, .int z4), (0, .ref (A 0))]) hx hb dX10_clockLine_109 hl (by decide) rfl (fun ls hl => ?_)
          refine lv_iload hx hb dX10_clockLine_111 (lv_at hl 0 rfl) ?_
          have j123_456 : ∀ (ls : Array Slot) (u456 : St) (H : Heap) (locs : List Loc), ((gi u456 9).toInt ≤ (gi u456 7).toInt ∧ (gi u456 7).toInt ≤ ((gi u 6)).toInt ∧ ((gi u456 8).toInt = 0 ∨ (gi u456 9).toInt < (gi u456 7).toInt)) ∧ ((gi u394 9)).toInt ≤ (gi u456 9).toInt → Un [(7, 7), (8, 8), (9, 9), (10, 10), (12, 12), (13, 13)] [] [] u394 u456 → IM u456 → Hd D (mw C A) (va_A (mw C A u) s.heap.size) s.heap u456 H locs → lv_has ls 6 [(4, .int y332d), (1, .int z4), (0, .ref (A 0))] → W p l e (rmL 6 0 0) s m ar below meth c H locs 0 0 Q (F0 m 123 ls []) := by
            intro ls u456 H locs x123_0 hUu456 hI hH hl
            refine lv_aload_n hx hb dX10_clockLine_123 rfl (lv_at hl 2 rfl) ?_
            refine lv_iconst (v := 0) hx hb dX10_clockLine_124 (by decide) ?_
            refine lv_bipush (v := 9) hx hb dX10_clockLine_125 (by decide) ?_
            have q458 := (show (gi u456 6).toInt = ((gi u 6)).toInt from (congrArg Int32.toInt (show gi u456 6 = (gi u 6) from ((hUu456.1 6 rfl).trans ((hUu394.1 6 rfl).trans ((gi_sa eu317).trans ((hUu229.1 6 rfl).trans ((hUu226.1 6 rfl).trans ((hUu126.1 6 rfl).trans ((gi_sa eu11).trans ((hUu5.1 6 rfl).trans rfl)))))))))).trans rfl)
            refine cvI (n := 2) (As := [.int 0, .int 9]) (rest := []) ⟨hx, hb, hml, hown, hts⟩ uc_in (kX10_number_0 l D C A u456 hI (by omega) _) q_m1409 q_n1411 q_p63 q_i11 q_c1412 hvX10_number ⟨(Nat.le_of_ble_eq_true rfl), (Nat.le_of_ble_eq_true rfl)⟩ ⟨(Nat.le_of_ble_eq_true rfl), (Nat.le_of_ble_eq_true rfl)⟩ hK hH (fun q h => Or.inr h) Bl0 (fun _ _ _ => trivial) 10 0 rfl (mwc0 C A u456) rfl hl.1 rfl (Nat.le_of_ble_eq_true rfl) dX10_clockLine_127 (fun r460 u459 H locs p461 hH => ?_)
            obtain ⟨hI, hUu459, p461⟩ := p461
            obtain ⟨f462, f463, f464⟩ := p461
            refine lv_istore (lv' := [(5, .int r460), (4, .int y332d), (1, .int z4), (0, .ref (A 0))]) hx hb dX10_clockLine_130 hl (by decide) rfl (fun ls hl => ?_)
            refine lv_aload_n hx hb dX10_clockLine_132 rfl (lv_at hl 3 rfl) ?_
            refine va_get (ci := 10) (v := .ref (A 8)) (C := RX10) (T := TX10) (N := 42) hx hb hts (fun w h => uc_in w (inX10 w h)) hown hK hH.1 0 (mwc0 C A u459) rfl 18 (by decide) (hts _ (uc_in _ q_f1206)) (fun _ h9 => h9) rfl dX10_clockLine_133 ?_
            refine lv_iload_n hx hb dX10_clockLine_136 rfl (lv_at hl 2 rfl) ?_
            refine lv_iconst (v := 2) hx hb dX10_clockLine_137 (by decide) ?_
            refine lv_iadd hx hb dX10_clockLine_138 ?_
            refine p_nm (tt_add (X := (5 * (24 + ((ga u 7 27)).toInt))) (Y := 2) hz4 (by decide) (by omega) (by omega)) (fun z465 hz465 => ?_)
            refine lv_iload hx hb dX10_clockLine_139 (lv_at hl 1 rfl) ?_
            have j152_507 : ∀ (ls : Array Slot) (y468d : Int32), (-9) ≤ y468d.toInt → y468d.toInt ≤ 9 → lv_has ls 6 [(1, .int z4), (0, .ref (A 0))] → W p l e (rmL 6 0 0) s m ar below meth c H locs 0 0 Q (F0 m 152 ls [.int y468d, .int z465, .ref (A 8)]) := by
              intro ls y468d ly468d my468d hl
              refine r_iast (j := 8) hx hb hK hH 8 1 (mwc8 C A u459) rfl (i_ix hz465 (by omega) (by omega)) (mwa8 C A u459) dX10_clockLine_152 (fun u509 eu509 H locs hH => ?_)
              have hI := hI.pa0 eu509 (by decide) (by decide) (by decide)
              refine lv_aload_n hx hb dX10_clockLine_153 rfl (lv_at hl 1 rfl) ?_
              refine va_get (ci := 10) (v := .ref (A 8)) (C := RX10) (T := TX10) (N := 42) hx hb hts (fun w h => uc_in w (inX10 w h)) hown hK hH.1 0 (mwc0 C A u509) rfl 18 (by decide) (hts _ (uc_in _ q_f1206)) (fun _ h9 => h9) rfl dX10_clockLine_154 ?_
              refine lv_iload_n hx hb dX10_clockLine_157 rfl (lv_at hl 0 rfl) ?_
              refine lv_iconst (v := 3) hx hb dX10_clockLine_158 (by decide) ?_
              refine lv_iadd hx hb dX10_clockLine_159 ?_
              refine p_nm (tt_add (X := (5 * (24 + ((ga u 7 27)).toInt))) (Y := 3) hz4 (by decide) (by omega) (by omega)) (fun z510 hz510 => ?_)
              refine lv_aload_n hx hb dX10_clockLine_160 rfl (lv_at hl 1 rfl) ?_
              refine lv_ldc2 (v := 358337) hx hb hown (hts _ (uc_in _ q_k1437)) dX10_clockLine_161 ?_
              refine lv_iconst (v := 0) hx hb dX10_clockLine_164 (by decide) ?_
              refine lv_sipush (v := 999) hx hb dX10_clockLine_165 (by decide) ?_
              have q511 := (show (gi u509 6).toInt = ((gi u 6)).toInt from (congrArg Int32.toInt (show gi u509 6 = (gi u 6) from ((gi_sa eu509).trans ((hUu459.1 6 rfl).trans ((hUu456.1 6 rfl).trans ((hUu394.1 6 rfl).trans ((gi_sa eu317).trans ((hUu229.1 6 rfl).trans ((hUu226.1 6 rfl).trans ((hUu126.1 6 rfl).trans ((gi_sa eu11).trans ((hUu5.1 6 rfl).trans rfl)))))))))))).trans rfl)
              have q512 := (show (gi u509 7).toInt = ((gi u459 7)).toInt from (congrArg Int32.toInt (show gi u509 7 = (gi u459 7) from ((gi_sa eu509).trans rfl))).trans rfl)
              have q513 := (show (gi u509 8).toInt = ((gi u459 8)).toInt from (congrArg Int32.toInt (show gi u509 8 = (gi u459 8) from ((gi_sa eu509).trans rfl))).trans rfl)
              have q514 := (show (gi u509 9).toInt = ((gi u459 9)).toInt from (congrArg Int32.toInt (show gi u509 9 = (gi u459 9) from ((gi_sa eu509).trans rfl))).trans rfl)
              have q515 := (show (gi u509 12).toInt = ((gi u459 12)).toInt from (congrArg Int32.toInt (show gi u509 12 = (gi u459 12) from ((gi_sa eu509).trans rfl))).trans rfl)
              refine cvI (n := 3) (As := [.long 358337, .int 0, .int 999]) (rest := [.int z510, .ref (A 8)]) ⟨hx, hb, hml, hown, hts⟩ uc_in (kX10_number__1 l D C A u509 hI (358337) 358337 (by decide) (by omega) _) q_m1405 q_n1407 q_p62 q_i11 q_c1408 hvX10_number_ ⟨(Nat.le_of_ble_eq_true rfl), (Nat.le_of_ble_eq_true rfl)⟩ ⟨(Nat.le_of_ble_eq_true rfl), (Nat.le_of_ble_eq_true rfl)⟩ hK hH (fun q h => Or.inr h) Bl0 (fun _ _ _ => trivial) 10 0 rfl (mwc0 C A u509) rfl hl.1 rfl (Nat.le_of_ble_eq_true rfl) dX10_clockLine_168 (fun r517 u516 H locs p518 hH => ?_)
              obtain ⟨hI, hUu516, p518⟩ := p518
              obtain ⟨f519, f520, f521⟩ := p518
              refine r_iast (j := 8) hx hb hK hH 8 1 (mwc8 C A u516) rfl (i_ix hz510 (by omega) (by omega)) (mwa8 C A u516) dX10_clockLine_171 (fun u522 eu522 H locs hH => ?_)
              have hI := hI.pa0 eu522 (by decide) (by decide) (by decide)
              refine lv_aload_n hx hb dX10_clockLine_172 rfl (lv_at hl 1 rfl) ?_
              refine va_get (ci := 10) (v := .ref (A 8)) (C := RX10) (T := TX10) (N := 42) hx hb hts (fun w h => uc_in w (inX10 w h)) hown hK hH.1 0 (mwc0 C A u522) rfl 18 (by decide) (hts _ (uc_in _ q_f1206)) (fun _ h9 => h9) rfl dX10_clockLine_173 ?_
              refine lv_iload_n hx hb dX10_clockLine_176 rfl (lv_at hl 0 rfl) ?_
              refine lv_iconst (v := 4) hx hb dX10_clockLine_177 (by decide) ?_
              refine lv_iadd hx hb dX10_clockLine_178 ?_
              refine p_nm (tt_add (X := (5 * (24 + ((ga u 7 27)).toInt))) (Y := 4) hz4 (by decide) (by omega) (by omega)) (fun z523 hz523 => ?_)
              refine lv_aload_n hx hb dX10_clockLine_179 rfl (lv_at hl 1 rfl) ?_
              refine va_get (ci := 10) (v := .int (gi u522 12)) (C := RX10) (T := TX10) (N := 42) hx hb hts (fun w h => uc_in w (inX10 w h)) hown hK hH.1 0 (mwc0 C A u522) rfl 12 (by decide) (hts _ (uc_in _ q_f1200)) (fun _ h9 => h9) rfl dX10_clockLine_180 ?_
              refine pv_i (v := (gi u516 12)) ((gi_sa eu522).trans rfl) ?_
              have j201_548 : ∀ (ls : Array Slot) (y538d : Int32) (u548 : St) (H : Heap) (locs : List Loc), 0 ≤ y538d.toInt → y538d.toInt ≤ 1 → ((gi u548 9).toInt ≤ (gi u548 7).toInt ∧ (gi u548 7).toInt ≤ ((gi u 6)).toInt ∧ ((gi u548 8).toInt = 0 ∨ (gi u548 9).toInt < (gi u548 7).toInt)) ∧ ((gi u516 9)).toInt ≤ (gi u548 9).toInt → Un [(7, 7), (8, 8), (9, 9), (10, 10)] [] [] u522 u548 → IM u548 → Hd D (mw C A) (va_A (mw C A u) s.heap.size) s.heap u548 H locs → lv_has ls 6 [(0, .ref (A 0))] → W p l e (rmL 6 0 0) s m ar below meth c H locs 0 0 Q (F0 m 201 ls [.int y538d, .int z523, .ref (A 8)]) := by
                intro ls y538d u548 H locs ly538d my538d x201_0 hUu548 hI hH hl
                refine r_iast (j := 8) hx hb hK hH 8 1 (mwc8 C A u548) rfl (i_ix hz523 (by omega) (by omega)) (mwa8 C A u548) dX10_clockLine_201 (fun u550 eu550 H locs hH => ?_)
                have hI := hI.pa0 eu550 (by decide) (by decide) (by decide)
                refine lv_aload_n hx hb dX10_clockLine_202 rfl (lv_at hl 0 rfl) ?_
                refine lv_iconst (v := 3) hx hb dX10_clockLine_203 (by decide) ?_
                refine lv_aload_n hx hb dX10_clockLine_204 rfl (lv_at hl 0 rfl) ?_
                refine lv_iconst (v := 3) hx hb dX10_clockLine_205 (by decide) ?_
                refine cvS (n := 1) (As := [.int 3]) (rest := [.int 3, .ref (A 0)]) ⟨hx, hb, hml, hown, hts⟩ uc_in (kX10_hasRead_0 l D C A u550 hI ) q_m1424 q_n1426 q_p66 q_i11 q_c1427 hvX10_hasRead ⟨(Nat.le_of_ble_eq_true rfl), (Nat.le_of_ble_eq_true rfl)⟩ ⟨(Nat.le_of_ble_eq_true rfl), (Nat.le_of_ble_eq_true rfl)⟩ hK hH.1 10 0 rfl (mwc0 C A u550) rfl hl.1 rfl (Nat.le_of_ble_eq_true rfl) dX10_clockLine_206 (fun r551 p552 => ?_)
                subst p552
                refine pv_i (v := (ga u 7 27)) ((congrFun (ga_ne eu550 (by decide)) _).trans ((congrFun (hUu548.2.1 7 rfl) _).trans ((congrFun (ga_ne eu522 (by decide)) _).trans ((congrFun (hUu516.2.1 7 rfl) _).trans ((congrFun (ga_ne eu509 (by decide)) _).trans ((congrFun (hUu459.2.1 7 rfl) _).trans ((congrFun (hUu456.2.1 7 rfl) _).trans ((congrFun (hUu394.2.1 7 rfl) _).trans ((congrFun (ga_ne eu317 (by decide)) _).trans ((congrFun (hUu229.2.1 7 rfl) _).trans ((congrFun (hUu226.2.1 7 rfl) _).trans ((congrFun (hUu126.2.1 7 rfl) _).trans ((congrFun (ga_ne eu11 (by decide)) _).trans ((congrFun (hUu5.2.1 7 rfl) _).trans rfl)))))))))))))) ?_
                refine lv_iconst (v := 1) hx hb dX10_clockLine_209 (by decide) ?_
                refine lv_iadd hx hb dX10_clockLine_210 ?_
                refine p_nm (tt_add (X := ((ga u 7 27)).toInt) (Y := 1) rfl (by decide) (by omega) (by omega)) (fun z553 hz553 => ?_)
                refine cvU (n := 2) (As := [.int 3, .int z553]) (rest := []) ⟨hx, hb, hml, hown, hts⟩ uc_in (kX10_tells_2 l D C A u550 hI z553 (((ga u 7 27)).toInt + 1) hz553 (by omega) (by omega) _) q_m1362 q_n1364 q_p53 q_i11 q_c1365 hvX10_tells ⟨(Nat.le_of_ble_eq_true rfl), (Nat.le_of_ble_eq_true rfl)⟩ ⟨(Nat.le_of_ble_eq_true rfl), (Nat.le_of_ble_eq_true rfl)⟩ hK hH (fun q h => Or.inr h) Bl0 (fun _ _ _ => trivial) 10 0 rfl (mwc0 C A u550) rfl hl.1 rfl (Nat.le_of_ble_eq_true rfl) dX10_clockLine_211 (fun u554 H locs p556 hH => ?_)
                obtain ⟨hI, hUu554, p556⟩ := p556
                exact hret _ _ _ _ _ dX10_clockLine_214 ⟨hI, (Un.tr (Un.sa (Un.tr (Un.sa (Un.tr (Un.sa (Un.tr (Un.tr (Un.tr (Un.sa (Un.tr (Un.tr (Un.tr (Un.sa (Un.tr Un.rf hUu5 rfl rfl rfl) rfl eu11) hUu126 rfl rfl rfl) hUu226 rfl rfl rfl) hUu229 rfl rfl rfl) rfl eu317) hUu394 rfl rfl rfl) hUu456 rfl rfl rfl) hUu459 rfl rfl rfl) rfl eu509) hUu516 rfl rfl rfl) rfl eu522) hUu548 rfl rfl rfl) rfl eu550) hUu554 rfl rfl rfl), ⟨by have q6 := (show (gi u554 6).toInt = ((gi u 6)).toInt from (congrArg Int32.toInt (show gi u554 6 = (gi u 6) from ((hUu554.1 6 rfl).trans ((gi_sa eu550).trans ((hUu548.1 6 rfl).trans ((gi_sa eu522).trans ((hUu516.1 6 rfl).trans ((gi_sa eu509).trans ((hUu459.1 6 rfl).trans ((hUu456.1 6 rfl).trans ((hUu394.1 6 rfl).trans ((gi_sa eu317).trans ((hUu229.1 6 rfl).trans ((hUu226.1 6 rfl).trans ((hUu126.1 6 rfl).trans ((gi_sa eu11).trans ((hUu5.1 6 rfl).trans rfl))))))))))))))))).trans rfl); have q7 := (show (gi u554 7).toInt = ((gi u548 7)).toInt from (congrArg Int32.toInt (show gi u554 7 = (gi u548 7) from ((hUu554.1 7 rfl).trans ((gi_sa eu550).trans rfl)))).trans rfl); have q8 := (show (gi u554 8).toInt = ((gi u548 8)).toInt from (congrArg Int32.toInt (show gi u554 8 = (gi u548 8) from ((hUu554.1 8 rfl).trans ((gi_sa eu550).trans rfl)))).trans rfl); have q9 := (show (gi u554 9).toInt = ((gi u548 9)).toInt from (congrArg Int32.toInt (show gi u554 9 = (gi u548 9) from ((hUu554.1 9 rfl).trans ((gi_sa eu550).trans rfl)))).trans rfl); have q12 := (show (gi u554 12).toInt = ((gi u516 12)).toInt from (congrArg Int32.toInt (show gi u554 12 = (gi u516 12) from ((hUu554.1 12 rfl).trans ((gi_sa eu550).trans ((hUu548.1 12 rfl).trans ((gi_sa eu522).trans rfl)))))).trans rfl); omega, by have q6 := (show (gi u554 6).toInt = ((gi u 6)).toInt from (congrArg Int32.toInt (show gi u554 6 = (gi u 6) from ((hUu554.1 6 rfl).trans ((gi_sa eu550).trans ((hUu548.1 6 rfl).trans ((gi_sa eu522).trans ((hUu516.1 6 rfl).trans ((gi_sa eu509).trans ((hUu459.1 6 rfl).trans ((hUu456.1 6 rfl).trans ((hUu394.1 6 rfl).trans ((gi_sa eu317).trans ((hUu229.1 6 rfl).trans ((hUu226.1 6 rfl).trans ((hUu126.1 6 rfl).trans ((gi_sa eu11).trans ((hUu5.1 6 rfl).trans rfl))))))))))))))))).trans rfl); have q7 := (show (gi u554 7).toInt = ((gi u548 7)).toInt from (congrArg Int32.toInt (show gi u554 7 = (gi u548 7) from ((hUu554.1 7 rfl).trans ((gi_sa eu550).trans rfl)))).trans rfl); have q8 := (show (gi u554 8).toInt = ((gi u548 8)).toInt from (congrArg Int32.toInt (show gi u554 8 = (gi u548 8) from ((hUu554.1 8 rfl).trans ((gi_sa eu550).trans rfl)))).trans rfl); have q9 := (show (gi u554 9).toInt = ((gi u548 9)).toInt from (congrArg Int32.toInt (show gi u554 9 = (gi u548 9) from ((hUu554.1 9 rfl).trans ((gi_sa eu550).trans rfl)))).trans rfl); have q12 := (show (gi u554 12).toInt = ((gi u516 12)).toInt from (congrArg Int32.toInt (show gi u554 12 = (gi u516 12) from ((hUu554.1 12 rfl).trans ((gi_sa eu550).trans ((hUu548.1 12 rfl).trans ((gi_sa eu522).trans rfl)))))).trans rfl); omega⟩⟩ hH
              have j200_558 : ∀ (ls : Array Slot) (u558 : St) (H : Heap) (locs : List Loc), ((gi u558 9).toInt ≤ (gi u558 7).toInt ∧ (gi u558 7).toInt ≤ ((gi u 6)).toInt ∧ ((gi u558 8).toInt = 0 ∨ (gi u558 9).toInt < (gi u558 7).toInt)) ∧ ((gi u516 9)).toInt ≤ (gi u558 9).toInt → Un [(7, 7), (8, 8), (9, 9), (10, 10)] [] [] u522 u558 → IM u558 → Hd D (mw C A) (va_A (mw C A u) s.heap.size) s.heap u558 H locs → lv_has ls 6 [(0, .ref (A 0))] → W p l e (rmL 6 0 0) s m ar below meth c H locs 0 0 Q (F0 m 200 ls [.int z523, .ref (A 8)]) := by
                intro ls u558 H locs x200_0 hUu558 hI hH hl
                refine lv_iconst (v := 0) hx hb dX10_clockLine_200 (by decide) ?_
                exact j201_548 ls 0 u558 _ _ (by decide) (by decide) (by have q6 := (show (gi u558 6).toInt = ((gi u 6)).toInt from (congrArg Int32.toInt (show gi u558 6 = (gi u 6) from ((hUu558.1 6 rfl).trans ((gi_sa eu522).trans ((hUu516.1 6 rfl).trans ((gi_sa eu509).trans ((hUu459.1 6 rfl).trans ((hUu456.1 6 rfl).trans ((hUu394.1 6 rfl).trans ((gi_sa eu317).trans ((hUu229.1 6 rfl).trans ((hUu226.1 6 rfl).trans ((hUu126.1 6 rfl).trans ((gi_sa eu11).trans ((hUu5.1 6 rfl).trans rfl))))))))))))))).trans rfl); have q7 := (show (gi u558 7).toInt = ((gi u558 7)).toInt from (congrArg Int32.toInt (show gi u558 7 = (gi u558 7) from rfl)).trans rfl); have q8 := (show (gi u558 8).toInt = ((gi u558 8)).toInt from (congrArg Int32.toInt (show gi u558 8 = (gi u558 8) from rfl)).trans rfl); have q9 := (show (gi u558 9).toInt = ((gi u558 9)).toInt from (congrArg Int32.toInt (show gi u558 9 = (gi u558 9) from rfl)).trans rfl); have q12 := (show (gi u558 12).toInt = ((gi u516 12)).toInt from (congrArg Int32.toInt (show gi u558 12 = (gi u516 12) from ((hUu558.1 12 rfl).trans ((gi_sa eu522).trans rfl)))).trans rfl); omega) (Un.tr Un.rf hUu558 rfl rfl rfl) hI hH hl
              refine lv_if_ne (tgt := 200) hx hb dX10_clockLine_183 (by decide) (fun c524 => ?_) (fun c524 => ?_)
              · exact j200_558 ls u522 _ _ (by have q6 := (show (gi u522 6).toInt = ((gi u 6)).toInt from (congrArg Int32.toInt (show gi u522 6 = (gi u 6) from ((gi_sa eu522).trans ((hUu516.1 6 rfl).trans ((gi_sa eu509).trans ((hUu459.1 6 rfl).trans ((hUu456.1 6 rfl).trans ((hUu394.1 6 rfl).trans ((gi_sa eu317).trans ((hUu229.1 6 rfl).trans ((hUu226.1 6 rfl).trans ((hUu126.1 6 rfl).trans ((gi_sa eu11).trans ((hUu5.1 6 rfl).trans rfl)))))))))))))).trans rfl); have q7 := (show (gi u522 7).toInt = ((gi u516 7)).toInt from (congrArg Int32.toInt (show gi u522 7 = (gi u516 7) from ((gi_sa eu522).trans rfl))).trans rfl); have q8 := (show (gi u522 8).toInt = ((gi u516 8)).toInt from (congrArg Int32.toInt (show gi u522 8 = (gi u516 8) from ((gi_sa eu522).trans rfl))).trans rfl); have q9 := (show (gi u522 9).toInt = ((gi u516 9)).toInt from (congrArg Int32.toInt (show gi u522 9 = (gi u516 9) from ((gi_sa eu522).trans rfl))).trans rfl); have q12 := (show (gi u522 12).toInt = ((gi u516 12)).toInt from (congrArg Int32.toInt (show gi u522 12 = (gi u516 12) from ((gi_sa eu522).trans rfl))).trans rfl); omega) Un.rf hI hH (lv_sub hl [1] rfl)
              · have c524 := cEQ (x := (gi u516 12)) (y := 0) (X := ((gi u516 12)).toInt) (Y := 0) rfl (by decide) c524
                refine lv_aload_n hx hb dX10_clockLine_186 rfl (lv_at hl 1 rfl) ?_
                refine lv_ldc2 (v := 82408) hx hb hown (hts _ (uc_in _ q_k1438)) dX10_clockLine_187 ?_
                have q560 := (show (gi u522 6).toInt = ((gi u 6)).toInt from (congrArg Int32.toInt (show gi u522 6 = (gi u 6) from ((gi_sa eu522).trans ((hUu516.1 6 rfl).trans ((gi_sa eu509).trans ((hUu459.1 6 rfl).trans ((hUu456.1 6 rfl).trans ((hUu394.1 6 rfl).trans ((gi_sa eu317).trans ((hUu229.1 6 rfl).trans ((hUu226.1 6 rfl).trans ((hUu126.1 6 rfl).trans ((gi_sa eu11).trans ((hUu5.1 6 rfl).trans rfl)))))))))))))).trans rfl)
                have q561 := (show (gi u522 7).toInt = ((gi u516 7)).toInt from (congrArg Int32.toInt (show gi u522 7 = (gi u516 7) from ((gi_sa eu522).trans rfl))).trans rfl)
                have q562 := (show (gi u522 8).toInt = ((gi u516 8)).toInt from (congrArg Int32.toInt (show gi u522 8 = (gi u516 8) from ((gi_sa eu522).trans rfl))).trans rfl)
                have q563 := (show (gi u522 9).toInt = ((gi u516 9)).toInt from (congrArg Int32.toInt (show gi u522 9 = (gi u516 9) from ((gi_sa eu522).trans rfl))).trans rfl)
                have q564 := (show (gi u522 12).toInt = ((gi u516 12)).toInt from (congrArg Int32.toInt (show gi u522 12 = (gi u516 12) from ((gi_sa eu522).trans rfl))).trans rfl)
                refine cvI (n := 1) (As := [.long 82408]) (rest := [.int z523, .ref (A 8)]) ⟨hx, hb, hml, hown, hts⟩ uc_in (kX10_takes_0 l D C A u522 hI (82408) 82408 (by decide) (by omega) _) q_m1392 q_n1394 q_p59 q_i11 q_c1395 hvX10_takes ⟨(Nat.le_of_ble_eq_true rfl), (Nat.le_of_ble_eq_true rfl)⟩ ⟨(Nat.le_of_ble_eq_true rfl), (Nat.le_of_ble_eq_true rfl)⟩ hK hH (fun q h => Or.inr h) Bl0 (fun _ _ _ => trivial) 10 0 rfl (mwc0 C A u522) rfl hl.1 rfl (Nat.le_of_ble_eq_true rfl) dX10_clockLine_190 (fun r566 u565 H locs p567 hH => ?_)
                obtain ⟨hI, hUu565, p567⟩ := p567
                obtain ⟨f568, f569, f570⟩ := p567
                refine lv_if_eq (tgt := 200) hx hb dX10_clockLine_193 (by decide) (fun c571 => ?_) (fun c571 => ?_)
                · have c571 := cEQ (x := r566) (y := 0) (X := r566.toInt) (Y := 0) rfl (by decide) c571
                  exact j200_558 ls u565 _ _ (by have q6 := (show (gi u565 6).toInt = ((gi u 6)).toInt from (congrArg Int32.toInt (show gi u565 6 = (gi u 6) from ((hUu565.1 6 rfl).trans ((gi_sa eu522).trans ((hUu516.1 6 rfl).trans ((gi_sa eu509).trans ((hUu459.1 6 rfl).trans ((hUu456.1 6 rfl).trans ((hUu394.1 6 rfl).trans ((gi_sa eu317).trans ((hUu229.1 6 rfl).trans ((hUu226.1 6 rfl).trans ((hUu126.1 6 rfl).trans ((gi_sa eu11).trans ((hUu5.1 6 rfl).trans rfl))))))))))))))).trans rfl); have q7 := (show (gi u565 7).toInt = ((gi u565 7)).toInt from (congrArg Int32.toInt (show gi u565 7 = (gi u565 7) from rfl)).trans rfl); have q8 := (show (gi u565 8).toInt = ((gi u565 8)).toInt from (congrArg Int32.toInt (show gi u565 8 = (gi u565 8) from rfl)).trans rfl); have q9 := (show (gi u565 9).toInt = ((gi u565 9)).toInt from (congrArg Int32.toInt (show gi u565 9 = (gi u565 9) from rfl)).trans rfl); have q12 := (show (gi u565 12).toInt = ((gi u516 12)).toInt from (congrArg Int32.toInt (show gi u565 12 = (gi u516 12) from ((hUu565.1 12 rfl).trans ((gi_sa eu522).trans rfl)))).trans rfl); omega) (Un.tr Un.rf hUu565 rfl rfl rfl) hI hH (lv_sub hl [1] rfl)
                · have c571 := cNE (x := r566) (y := 0) (X := r566.toInt) (Y := 0) rfl (by decide) c571
                  refine lv_iconst (v := 1) hx hb dX10_clockLine_196 (by decide) ?_
                  refine lv_goto (tgt := 201) hx hb dX10_clockLine_197 (by decide) ?_
                  exact j201_548 ls 1 u565 _ _ (by decide) (by decide) (by have q6 := (show (gi u565 6).toInt = ((gi u 6)).toInt from (congrArg Int32.toInt (show gi u565 6 = (gi u 6) from ((hUu565.1 6 rfl).trans ((gi_sa eu522).trans ((hUu516.1 6 rfl).trans ((gi_sa eu509).trans ((hUu459.1 6 rfl).trans ((hUu456.1 6 rfl).trans ((hUu394.1 6 rfl).trans ((gi_sa eu317).trans ((hUu229.1 6 rfl).trans ((hUu226.1 6 rfl).trans ((hUu126.1 6 rfl).trans ((gi_sa eu11).trans ((hUu5.1 6 rfl).trans rfl))))))))))))))).trans rfl); have q7 := (show (gi u565 7).toInt = ((gi u565 7)).toInt from (congrArg Int32.toInt (show gi u565 7 = (gi u565 7) from rfl)).trans rfl); have q8 := (show (gi u565 8).toInt = ((gi u565 8)).toInt from (congrArg Int32.toInt (show gi u565 8 = (gi u565 8) from rfl)).trans rfl); have q9 := (show (gi u565 9).toInt = ((gi u565 9)).toInt from (congrArg Int32.toInt (show gi u565 9 = (gi u565 9) from rfl)).trans rfl); have q12 := (show (gi u565 12).toInt = ((gi u516 12)).toInt from (congrArg Int32.toInt (show gi u565 12 = (gi u516 12) from ((hUu565.1 12 rfl).trans ((gi_sa eu522).trans rfl)))).trans rfl); omega) (Un.tr Un.rf hUu565 rfl rfl rfl) hI hH (lv_sub hl [1] rfl)
            refine lv_if_eq (tgt := 150) hx hb dX10_clockLine_141 (by decide) (fun c466 => ?_) (fun c466 => ?_)
            · have c466 := cEQ (x := y332d) (y := 0) (X := y332d.toInt) (Y := 0) rfl (by decide) c466
              refine lv_iload hx hb dX10_clockLine_150 (lv_at hl 0 rfl) ?_
              exact j152_507 ls r460 (by omega) (by omega) (lv_sub hl [2, 3] rfl)
            · have c466 := cNE (x := y332d) (y := 0) (X := y332d.toInt) (Y := 0) rfl (by decide) c466
              refine lv_iload hx hb dX10_clockLine_144 (lv_at hl 0 rfl) ?_
              refine lv_ineg hx hb dX10_clockLine_146 ?_
              refine p_nm (tt_neg rfl (by omega) (by omega)) (fun z572 hz572 => ?_)
              refine lv_goto (tgt := 152) hx hb dX10_clockLine_147 (by decide) ?_
              exact j152_507 ls z572 (by have q9 := (show z572.toInt = (-r460.toInt) from hz572); omega) (by have q9 := (show z572.toInt = (-r460.toInt) from hz572); omega) (lv_sub hl [2, 3] rfl)
          refine lv_if_ne (tgt := 123) hx hb dX10_clockLine_113 (by decide) (fun c396 => ?_) (fun c396 => ?_)
          · have c396 := cNE (x := y332d) (y := 0) (X := y332d.toInt) (Y := 0) rfl (by decide) c396
            exact j123_456 ls u394 _ _ (by have q6 := (show (gi u394 6).toInt = ((gi u 6)).toInt from (congrArg Int32.toInt (show gi u394 6 = (gi u 6) from ((hUu394.1 6 rfl).trans ((gi_sa eu317).trans ((hUu229.1 6 rfl).trans ((hUu226.1 6 rfl).trans ((hUu126.1 6 rfl).trans ((gi_sa eu11).trans ((hUu5.1 6 rfl).trans rfl))))))))).trans rfl); have q7 := (show (gi u394 7).toInt = ((gi u394 7)).toInt from (congrArg Int32.toInt (show gi u394 7 = (gi u394 7) from rfl)).trans rfl); have q8 := (show (gi u394 8).toInt = ((gi u394 8)).toInt from (congrArg Int32.toInt (show gi u394 8 = (gi u394 8) from rfl)).trans rfl); have q9 := (show (gi u394 9).toInt = ((gi u394 9)).toInt from (congrArg Int32.toInt (show gi u394 9 = (gi u394 9) from rfl)).trans rfl); have q12 := (show (gi u394 12).toInt = ((gi u229 12)).toInt from (congrArg Int32.toInt (show gi u394 12 = (gi u229 12) from ((hUu394.1 12 rfl).trans ((gi_sa eu317).trans rfl)))).trans rfl); omega) Un.rf hI hH hl
          · have c396 := cEQ (x := y332d) (y := 0) (X := y332d.toInt) (Y := 0) rfl (by decide) c396
            refine lv_aload_n hx hb dX10_clockLine_116 rfl (lv_at hl 2 rfl) ?_
            refine lv_ldc2 (v := 6686542) hx hb hown (hts _ (uc_in _ q_k1436)) dX10_clockLine_117 ?_
            have q573 := (show (gi u394 6).toInt = ((gi u 6)).toInt from (congrArg Int32.toInt (show gi u394 6 = (gi u 6) from ((hUu394.1 6 rfl).trans ((gi_sa eu317).trans ((hUu229.1 6 rfl).trans ((hUu226.1 6 rfl).trans ((hUu126.1 6 rfl).trans ((gi_sa eu11).trans ((hUu5.1 6 rfl).trans rfl))))))))).trans rfl)
            have q574 := (show (gi u394 12).toInt = ((gi u229 12)).toInt from (congrArg Int32.toInt (show gi u394 12 = (gi u229 12) from ((hUu394.1 12 rfl).trans ((gi_sa eu317).trans rfl)))).trans rfl)
            refine cvU (n := 1) (As := [.long 6686542]) (rest := []) ⟨hx, hb, hml, hown, hts⟩ uc_in (kX10_asks_0 l D C A u394 hI (6686542) 6686542 (by decide) (by omega) _) q_m1388 q_n1390 q_p58 q_i11 q_c1391 hvX10_asks ⟨(Nat.le_of_ble_eq_true rfl), (Nat.le_of_ble_eq_true rfl)⟩ ⟨(Nat.le_of_ble_eq_true rfl), (Nat.le_of_ble_eq_true rfl)⟩ hK hH (fun q h => Or.inr h) Bl0 (fun _ _ _ => trivial) 10 0 rfl (mwc0 C A u394) rfl hl.1 rfl (Nat.le_of_ble_eq_true rfl) dX10_clockLine_120 (fun u575 H locs p577 hH => ?_)
            obtain ⟨hI, hUu575, p577⟩ := p577
            obtain ⟨f578, f579⟩ := p577
            exact j123_456 ls u575 _ _ (by have q6 := (show (gi u575 6).toInt = ((gi u 6)).toInt from (congrArg Int32.toInt (show gi u575 6 = (gi u 6) from ((hUu575.1 6 rfl).trans ((hUu394.1 6 rfl).trans ((gi_sa eu317).trans ((hUu229.1 6 rfl).trans ((hUu226.1 6 rfl).trans ((hUu126.1 6 rfl).trans ((gi_sa eu11).trans ((hUu5.1 6 rfl).trans rfl)))))))))).trans rfl); have q7 := (show (gi u575 7).toInt = ((gi u575 7)).toInt from (congrArg Int32.toInt (show gi u575 7 = (gi u575 7) from rfl)).trans rfl); have q8 := (show (gi u575 8).toInt = ((gi u575 8)).toInt from (congrArg Int32.toInt (show gi u575 8 = (gi u575 8) from rfl)).trans rfl); have q9 := (show (gi u575 9).toInt = ((gi u575 9)).toInt from (congrArg Int32.toInt (show gi u575 9 = (gi u575 9) from rfl)).trans rfl); have q12 := (show (gi u575 12).toInt = ((gi u575 12)).toInt from (congrArg Int32.toInt (show gi u575 12 = (gi u575 12) from rfl)).trans rfl); omega) (Un.tr Un.rf hUu575 rfl rfl rfl) hI hH hl
        have j108_582 : ∀ (ls : Array Slot) (u582 : St) (H : Heap) (locs : List Loc), ((gi u582 9).toInt ≤ (gi u582 7).toInt ∧ (gi u582 7).toInt ≤ ((gi u 6)).toInt ∧ ((gi u582 8).toInt = 0 ∨ (gi u582 9).toInt < (gi u582 7).toInt)) ∧ ((gi u229 9)).toInt ≤ (gi u582 9).toInt → Un [(7, 7), (8, 8), (9, 9), (10, 10)] [] [] u317 u582 → IM u582 → Hd D (mw C A) (va_A (mw C A u) s.heap.size) s.heap u582 H locs → lv_has ls 6 [(1, .int z4), (0, .ref (A 0))] → W p l e (rmL 6 0 0) s m ar below meth c H locs 0 0 Q (F0 m 108 ls []) := by
          intro ls u582 H locs x108_0 hUu582 hI hH hl
          refine lv_iconst (v := 0) hx hb dX10_clockLine_108 (by decide) ?_
          exact j109_394 ls 0 u582 _ _ (by decide) (by decide) (by have q6 := (show (gi u582 6).toInt = ((gi u 6)).toInt from (congrArg Int32.toInt (show gi u582 6 = (gi u 6) from ((hUu582.1 6 rfl).trans ((gi_sa eu317).trans ((hUu229.1 6 rfl).trans ((hUu226.1 6 rfl).trans ((hUu126.1 6 rfl).trans ((gi_sa eu11).trans ((hUu5.1 6 rfl).trans rfl))))))))).trans rfl); have q7 := (show (gi u582 7).toInt = ((gi u582 7)).toInt from (congrArg Int32.toInt (show gi u582 7 = (gi u582 7) from rfl)).trans rfl); have q8 := (show (gi u582 8).toInt = ((gi u582 8)).toInt from (congrArg Int32.toInt (show gi u582 8 = (gi u582 8) from rfl)).trans rfl); have q9 := (show (gi u582 9).toInt = ((gi u582 9)).toInt from (congrArg Int32.toInt (show gi u582 9 = (gi u582 9) from rfl)).trans rfl); have q12 := (show (gi u582 12).toInt = ((gi u229 12)).toInt from (congrArg Int32.toInt (show gi u582 12 = (gi u229 12) from ((hUu582.1 12 rfl).trans ((gi_sa eu317).trans rfl)))).trans rfl); omega) (Un.tr Un.rf hUu582 rfl rfl rfl) hI hH hl
        refine lv_if_ne (tgt := 108) hx hb dX10_clockLine_91 (by decide) (fun c318 => ?_) (fun c318 => ?_)
        · exact j108_582 ls u317 _ _ (by have q6 := (show (gi u317 6).toInt = ((gi u 6)).toInt from (congrArg Int32.toInt (show gi u317 6 = (gi u 6) from ((gi_sa eu317).trans ((hUu229.1 6 rfl).trans ((hUu226.1 6 rfl).trans ((hUu126.1 6 rfl).trans ((gi_sa eu11).trans ((hUu5.1 6 rfl).trans rfl)))))))).trans rfl); have q7 := (show (gi u317 7).toInt = ((gi u229 7)).toInt from (congrArg Int32.toInt (show gi u317 7 = (gi u229 7) from ((gi_sa eu317).trans rfl))).trans rfl); have q8 := (show (gi u317 8).toInt = ((gi u229 8)).toInt from (congrArg Int32.toInt (show gi u317 8 = (gi u229 8) from ((gi_sa eu317).trans rfl))).trans rfl); have q9 := (show (gi u317 9).toInt = ((gi u229 9)).toInt from (congrArg Int32.toInt (show gi u317 9 = (gi u229 9) from ((gi_sa eu317).trans rfl))).trans rfl); have q12 := (show (gi u317 12).toInt = ((gi u229 12)).toInt from (congrArg Int32.toInt (show gi u317 12 = (gi u229 12) from ((gi_sa eu317).trans rfl))).trans rfl); omega) Un.rf hI hH hl
        · have c318 := cEQ (x := (gi u229 12)) (y := 0) (X := ((gi u229 12)).toInt) (Y := 0) rfl (by decide) c318
          refine lv_aload_n hx hb dX10_clockLine_94 rfl (lv_at hl 1 rfl) ?_
          refine lv_ldc2 (v := 3746728) hx hb hown (hts _ (uc_in _ q_k1435)) dX10_clockLine_95 ?_
          have q584 := (show (gi u317 6).toInt = ((gi u 6)).toInt from (congrArg Int32.toInt (show gi u317 6 = (gi u 6) from ((gi_sa eu317).trans ((hUu229.1 6 rfl).trans ((hUu226.1 6 rfl).trans ((hUu126.1 6 rfl).trans ((gi_sa eu11).trans ((hUu5.1 6 rfl).trans rfl)))))))).trans rfl)
          have q585 := (show (gi u317 7).toInt = ((gi u229 7)).toInt from (congrArg Int32.toInt (show gi u317 7 = (gi u229 7) from ((gi_sa eu317).trans rfl))).trans rfl)
          have q586 := (show (gi u317 8).toInt = ((gi u229 8)).toInt from (congrArg Int32.toInt (show gi u317 8 = (gi u229 8) from ((gi_sa eu317).trans rfl))).trans rfl)
          have q587 := (show (gi u317 9).toInt = ((gi u229 9)).toInt from (congrArg Int32.toInt (show gi u317 9 = (gi u229 9) from ((gi_sa eu317).trans rfl))).trans rfl)
          have q588 := (show (gi u317 12).toInt = ((gi u229 12)).toInt from (congrArg Int32.toInt (show gi u317 12 = (gi u229 12) from ((gi_sa eu317).trans rfl))).trans rfl)
          refine cvI (n := 1) (As := [.long 3746728]) (rest := []) ⟨hx, hb, hml, hown, hts⟩ uc_in (kX10_takes_0 l D C A u317 hI (3746728) 3746728 (by decide) (by omega) _) q_m1392 q_n1394 q_p59 q_i11 q_c1395 hvX10_takes ⟨(Nat.le_of_ble_eq_true rfl), (Nat.le_of_ble_eq_true rfl)⟩ ⟨(Nat.le_of_ble_eq_true rfl), (Nat.le_of_ble_eq_true rfl)⟩ hK hH (fun q h => Or.inr h) Bl0 (fun _ _ _ => trivial) 10 0 rfl (mwc0 C A u317) rfl hl.1 rfl (Nat.le_of_ble_eq_true rfl) dX10_clockLine_98 (fun r590 u589 H locs p591 hH => ?_)
          obtain ⟨hI, hUu589, p591⟩ := p591
          obtain ⟨f592, f593, f594⟩ := p591
          refine lv_if_eq (tgt := 108) hx hb dX10_clockLine_101 (by decide) (fun c595 => ?_) (fun c595 => ?_)
          · have c595 := cEQ (x := r590) (y := 0) (X := r590.toInt) (Y := 0) rfl (by decide) c595
            exact j108_582 ls u589 _ _ (by have q6 := (show (gi u589 6).toInt = ((gi u 6)).toInt from (congrArg Int32.toInt (show gi u589 6 = (gi u 6) from ((hUu589.1 6 rfl).trans ((gi_sa eu317).trans ((hUu229.1 6 rfl).trans ((hUu226.1 6 rfl).trans ((hUu126.1 6 rfl).trans ((gi_sa eu11).trans ((hUu5.1 6 rfl).trans rfl))))))))).trans rfl); have q7 := (show (gi u589 7).toInt = ((gi u589 7)).toInt from (congrArg Int32.toInt (show gi u589 7 = (gi u589 7) from rfl)).trans rfl); have q8 := (show (gi u589 8).toInt = ((gi u589 8)).toInt from (congrArg Int32.toInt (show gi u589 8 = (gi u589 8) from rfl)).trans rfl); have q9 := (show (gi u589 9).toInt = ((gi u589 9)).toInt from (congrArg Int32.toInt (show gi u589 9 = (gi u589 9) from rfl)).trans rfl); have q12 := (show (gi u589 12).toInt = ((gi u229 12)).toInt from (congrArg Int32.toInt (show gi u589 12 = (gi u229 12) from ((hUu589.1 12 rfl).trans ((gi_sa eu317).trans rfl)))).trans rfl); omega) (Un.tr Un.rf hUu589 rfl rfl rfl) hI hH hl
          · have c595 := cNE (x := r590) (y := 0) (X := r590.toInt) (Y := 0) rfl (by decide) c595
            refine lv_iconst (v := 1) hx hb dX10_clockLine_104 (by decide) ?_
            refine lv_goto (tgt := 109) hx hb dX10_clockLine_105 (by decide) ?_
            exact j109_394 ls 1 u589 _ _ (by decide) (by decide) (by have q6 := (show (gi u589 6).toInt = ((gi u 6)).toInt from (congrArg Int32.toInt (show gi u589 6 = (gi u 6) from ((hUu589.1 6 rfl).trans ((gi_sa eu317).trans ((hUu229.1 6 rfl).trans ((hUu226.1 6 rfl).trans ((hUu126.1 6 rfl).trans ((gi_sa eu11).trans ((hUu5.1 6 rfl).trans rfl))))))))).trans rfl); have q7 := (show (gi u589 7).toInt = ((gi u589 7)).toInt from (congrArg Int32.toInt (show gi u589 7 = (gi u589 7) from rfl)).trans rfl); have q8 := (show (gi u589 8).toInt = ((gi u589 8)).toInt from (congrArg Int32.toInt (show gi u589 8 = (gi u589 8) from rfl)).trans rfl); have q9 := (show (gi u589 9).toInt = ((gi u589 9)).toInt from (congrArg Int32.toInt (show gi u589 9 = (gi u589 9) from rfl)).trans rfl); have q12 := (show (gi u589 12).toInt = ((gi u229 12)).toInt from (congrArg Int32.toInt (show gi u589 12 = (gi u229 12) from ((hUu589.1 12 rfl).trans ((gi_sa eu317).trans rfl)))).trans rfl); omega) (Un.tr Un.rf hUu589 rfl rfl rfl) hI hH hl
      refine lv_if_eq (tgt := 85) hx hb dX10_clockLine_77 (by decide) (fun c236 => ?_) (fun c236 => ?_)
      · have c236 := cEQ (x := y26d) (y := 0) (X := y26d.toInt) (Y := 0) rfl (by decide) c236
        refine lv_iload_n hx hb dX10_clockLine_85 rfl (lv_at hl 0 rfl) ?_
        exact j86_315 ls r230 (by omega) (by omega) (lv_sub hl [2, 3] rfl)
      · have c236 := cNE (x := y26d) (y := 0) (X := y26d.toInt) (Y := 0) rfl (by decide) c236
        refine lv_iload_n hx hb dX10_clockLine_80 rfl (lv_at hl 0 rfl) ?_
        refine lv_ineg hx hb dX10_clockLine_81 ?_
        refine p_nm (tt_neg rfl (by omega) (by omega)) (fun z596 hz596 => ?_)
        refine lv_goto (tgt := 86) hx hb dX10_clockLine_82 (by decide) ?_
        exact j86_315 ls z596 (by have q9 := (show z596.toInt = (-r230.toInt) from hz596); omega) (by have q9 := (show z596.toInt = (-r230.toInt) from hz596); omega) (lv_sub hl [2, 3] rfl)
    refine lv_if_ne (tgt := 61) hx hb dX10_clockLine_51 (by decide) (fun c128 => ?_) (fun c128 => ?_)
    · have c128 := cNE (x := y26d) (y := 0) (X := y26d.toInt) (Y := 0) rfl (by decide) c128
      exact j61_226 ls u126 _ _ (by have q6 := (show (gi u126 6).toInt = ((gi u 6)).toInt from (congrArg Int32.toInt (show gi u126 6 = (gi u 6) from ((hUu126.1 6 rfl).trans ((gi_sa eu11).trans ((hUu5.1 6 rfl).trans rfl))))).trans rfl); have q7 := (show (gi u126 7).toInt = ((gi u126 7)).toInt from (congrArg Int32.toInt (show gi u126 7 = (gi u126 7) from rfl)).trans rfl); have q8 := (show (gi u126 8).toInt = ((gi u126 8)).toInt from (congrArg Int32.toInt (show gi u126 8 = (gi u126 8) from rfl)).trans rfl); have q9 := (show (gi u126 9).toInt = ((gi u126 9)).toInt from (congrArg Int32.toInt (show gi u126 9 = (gi u126 9) from rfl)).trans rfl); have q12 := (show (gi u126 12).toInt = ((gi u5 12)).toInt from (congrArg Int32.toInt (show gi u126 12 = (gi u5 12) from ((hUu126.1 12 rfl).trans ((gi_sa eu11).trans rfl)))).trans rfl); omega) Un.rf hI hH hl
    · have c128 := cEQ (x := y26d) (y := 0) (X := y26d.toInt) (Y := 0) rfl (by decide) c128
      refine lv_aload_n hx hb dX10_clockLine_54 rfl (lv_at hl 2 rfl) ?_
      refine lv_ldc2 (v := 237470) hx hb hown (hts _ (uc_in _ q_k1434)) dX10_clockLine_55 ?_
      have q597 := (show (gi u126 6).toInt = ((gi u 6)).toInt from (congrArg Int32.toInt (show gi u126 6 = (gi u 6) from ((hUu126.1 6 rfl).trans ((gi_sa eu11).trans ((hUu5.1 6 rfl).trans rfl))))).trans rfl)
      have q598 := (show (gi u126 12).toInt = ((gi u5 12)).toInt from (congrArg Int32.toInt (show gi u126 12 = (gi u5 12) from ((hUu126.1 12 rfl).trans ((gi_sa eu11).trans rfl)))).trans rfl)
      refine cvU (n := 1) (As := [.long 237470]) (rest := []) ⟨hx, hb, hml, hown, hts⟩ uc_in (kX10_asks_0 l D C A u126 hI (237470) 237470 (by decide) (by omega) _) q_m1388 q_n1390 q_p58 q_i11 q_c1391 hvX10_asks ⟨(Nat.le_of_ble_eq_true rfl), (Nat.le_of_ble_eq_true rfl)⟩ ⟨(Nat.le_of_ble_eq_true rfl), (Nat.le_of_ble_eq_true rfl)⟩ hK hH (fun q h => Or.inr h) Bl0 (fun _ _ _ => trivial) 10 0 rfl (mwc0 C A u126) rfl hl.1 rfl (Nat.le_of_ble_eq_true rfl) dX10_clockLine_58 (fun u599 H locs p601 hH => ?_)
      obtain ⟨hI, hUu599, p601⟩ := p601
      obtain ⟨f602, f603⟩ := p601
      exact j61_226 ls u599 _ _ (by have q6 := (show (gi u599 6).toInt = ((gi u 6)).toInt from (congrArg Int32.toInt (show gi u599 6 = (gi u 6) from ((hUu599.1 6 rfl).trans ((hUu126.1 6 rfl).trans ((gi_sa eu11).trans ((hUu5.1 6 rfl).trans rfl)))))).trans rfl); have q7 := (show (gi u599 7).toInt = ((gi u599 7)).toInt from (congrArg Int32.toInt (show gi u599 7 = (gi u599 7) from rfl)).trans rfl); have q8 := (show (gi u599 8).toInt = ((gi u599 8)).toInt from (congrArg Int32.toInt (show gi u599 8 = (gi u599 8) from rfl)).trans rfl); have q9 := (show (gi u599 9).toInt = ((gi u599 9)).toInt from (congrArg Int32.toInt (show gi u599 9 = (gi u599 9) from rfl)).trans rfl); have q12 := (show (gi u599 12).toInt = ((gi u599 12)).toInt from (congrArg Int32.toInt (show gi u599 12 = (gi u599 12) from rfl)).trans rfl); omega) (Un.tr Un.rf hUu599 rfl rfl rfl) hI hH hl
  have j48_606 : ∀ (ls : Array Slot) (u606 : St) (H : Heap) (locs : List Loc), ((gi u606 9).toInt ≤ (gi u606 7).toInt ∧ (gi u606 7).toInt ≤ ((gi u 6)).toInt ∧ ((gi u606 8).toInt = 0 ∨ (gi u606 9).toInt < (gi u606 7).toInt)) ∧ ((gi u5 9)).toInt ≤ (gi u606 9).toInt → Un [(7, 7), (8, 8), (9, 9), (10, 10)] [] [] u11 u606 → IM u606 → Hd D (mw C A) (va_A (mw C A u) s.heap.size) s.heap u606 H locs → lv_has ls 6 [(1, .int z4), (0, .ref (A 0))] → W p l e (rmL 6 0 0) s m ar below meth c H locs 0 0 Q (F0 m 48 ls []) := by
    intro ls u606 H locs x48_0 hUu606 hI hH hl
    refine lv_iconst (v := 0) hx hb dX10_clockLine_48 (by decide) ?_
    exact j49_126 ls 0 u606 _ _ (by decide) (by decide) (by have q6 := (show (gi u606 6).toInt = ((gi u 6)).toInt from (congrArg Int32.toInt (show gi u606 6 = (gi u 6) from ((hUu606.1 6 rfl).trans ((gi_sa eu11).trans ((hUu5.1 6 rfl).trans rfl))))).trans rfl); have q7 := (show (gi u606 7).toInt = ((gi u606 7)).toInt from (congrArg Int32.toInt (show gi u606 7 = (gi u606 7) from rfl)).trans rfl); have q8 := (show (gi u606 8).toInt = ((gi u606 8)).toInt from (congrArg Int32.toInt (show gi u606 8 = (gi u606 8) from rfl)).trans rfl); have q9 := (show (gi u606 9).toInt = ((gi u606 9)).toInt from (congrArg Int32.toInt (show gi u606 9 = (gi u606 9) from rfl)).trans rfl); have q12 := (show (gi u606 12).toInt = ((gi u5 12)).toInt from (congrArg Int32.toInt (show gi u606 12 = (gi u5 12) from ((hUu606.1 12 rfl).trans ((gi_sa eu11).trans rfl)))).trans rfl); omega) (Un.tr Un.rf hUu606 rfl rfl rfl) hI hH hl
  refine lv_if_ne (tgt := 48) hx hb dX10_clockLine_31 (by decide) (fun c12 => ?_) (fun c12 => ?_)
  · exact j48_606 ls u11 _ _ (by have q6 := (show (gi u11 6).toInt = ((gi u 6)).toInt from (congrArg Int32.toInt (show gi u11 6 = (gi u 6) from ((gi_sa eu11).trans ((hUu5.1 6 rfl).trans rfl)))).trans rfl); have q7 := (show (gi u11 7).toInt = ((gi u5 7)).toInt from (congrArg Int32.toInt (show gi u11 7 = (gi u5 7) from ((gi_sa eu11).trans rfl))).trans rfl); have q8 := (show (gi u11 8).toInt = ((gi u5 8)).toInt from (congrArg Int32.toInt (show gi u11 8 = (gi u5 8) from ((gi_sa eu11).trans rfl))).trans rfl); have q9 := (show (gi u11 9).toInt = ((gi u5 9)).toInt from (congrArg Int32.toInt (show gi u11 9 = (gi u5 9) from ((gi_sa eu11).trans rfl))).trans rfl); have q12 := (show (gi u11 12).toInt = ((gi u5 12)).toInt from (congrArg Int32.toInt (show gi u11 12 = (gi u5 12) from ((gi_sa eu11).trans rfl))).trans rfl); omega) Un.rf hI hH hl
  · have c12 := cEQ (x := (gi u5 12)) (y := 0) (X := ((gi u5 12)).toInt) (Y := 0) rfl (by decide) c12
    refine lv_aload_n hx hb dX10_clockLine_34 rfl (lv_at hl 1 rfl) ?_
    refine lv_ldc2 (v := 2690359) hx hb hown (hts _ (uc_in _ q_k1433)) dX10_clockLine_35 ?_
    have q608 := (show (gi u11 6).toInt = ((gi u 6)).toInt from (congrArg Int32.toInt (show gi u11 6 = (gi u 6) from ((gi_sa eu11).trans ((hUu5.1 6 rfl).trans rfl)))).trans rfl)
    have q609 := (show (gi u11 7).toInt = ((gi u5 7)).toInt from (congrArg Int32.toInt (show gi u11 7 = (gi u5 7) from ((gi_sa eu11).trans rfl))).trans rfl)
    have q610 := (show (gi u11 8).toInt = ((gi u5 8)).toInt from (congrArg Int32.toInt (show gi u11 8 = (gi u5 8) from ((gi_sa eu11).trans rfl))).trans rfl)
    have q611 := (show (gi u11 9).toInt = ((gi u5 9)).toInt from (congrArg Int32.toInt (show gi u11 9 = (gi u5 9) from ((gi_sa eu11).trans rfl))).trans rfl)
    have q612 := (show (gi u11 12).toInt = ((gi u5 12)).toInt from (congrArg Int32.toInt (show gi u11 12 = (gi u5 12) from ((gi_sa eu11).trans rfl))).trans rfl)
    refine cvI (n := 1) (As := [.long 2690359]) (rest := []) ⟨hx, hb, hml, hown, hts⟩ uc_in (kX10_takes_0 l D C A u11 hI (2690359) 2690359 (by decide) (by omega) _) q_m1392 q_n1394 q_p59 q_i11 q_c1395 hvX10_takes ⟨(Nat.le_of_ble_eq_true rfl), (Nat.le_of_ble_eq_true rfl)⟩ ⟨(Nat.le_of_ble_eq_true rfl), (Nat.le_of_ble_eq_true rfl)⟩ hK hH (fun q h => Or.inr h) Bl0 (fun _ _ _ => trivial) 10 0 rfl (mwc0 C A u11) rfl hl.1 rfl (Nat.le_of_ble_eq_true rfl) dX10_clockLine_38 (fun r614 u613 H locs p615 hH => ?_)
    obtain ⟨hI, hUu613, p615⟩ := p615
    obtain ⟨f616, f617, f618⟩ := p615
    refine lv_if_eq (tgt := 48) hx hb dX10_clockLine_41 (by decide) (fun c619 => ?_) (fun c619 => ?_)
    · have c619 := cEQ (x := r614) (y := 0) (X := r614.toInt) (Y := 0) rfl (by decide) c619
      exact j48_606 ls u613 _ _ (by have q6 := (show (gi u613 6).toInt = ((gi u 6)).toInt from (congrArg Int32.toInt (show gi u613 6 = (gi u 6) from ((hUu613.1 6 rfl).trans ((gi_sa eu11).trans ((hUu5.1 6 rfl).trans rfl))))).trans rfl); have q7 := (show (gi u613 7).toInt = ((gi u613 7)).toInt from (congrArg Int32.toInt (show gi u613 7 = (gi u613 7) from rfl)).trans rfl); have q8 := (show (gi u613 8).toInt = ((gi u613 8)).toInt from (congrArg Int32.toInt (show gi u613 8 = (gi u613 8) from rfl)).trans rfl); have q9 := (show (gi u613 9).toInt = ((gi u613 9)).toInt from (congrArg Int32.toInt (show gi u613 9 = (gi u613 9) from rfl)).trans rfl); have q12 := (show (gi u613 12).toInt = ((gi u5 12)).toInt from (congrArg Int32.toInt (show gi u613 12 = (gi u5 12) from ((hUu613.1 12 rfl).trans ((gi_sa eu11).trans rfl)))).trans rfl); omega) (Un.tr Un.rf hUu613 rfl rfl rfl) hI hH hl
    · have c619 := cNE (x := r614) (y := 0) (X := r614.toInt) (Y := 0) rfl (by decide) c619
      refine lv_iconst (v := 1) hx hb dX10_clockLine_44 (by decide) ?_
      refine lv_goto (tgt := 49) hx hb dX10_clockLine_45 (by decide) ?_
      exact j49_126 ls 1 u613 _ _ (by decide) (by decide) (by have q6 := (show (gi u613 6).toInt = ((gi u 6)).toInt from (congrArg Int32.toInt (show gi u613 6 = (gi u 6) from ((hUu613.1 6 rfl).trans ((gi_sa eu11).trans ((hUu5.1 6 rfl).trans rfl))))).trans rfl); have q7 := (show (gi u613 7).toInt = ((gi u613 7)).toInt from (congrArg Int32.toInt (show gi u613 7 = (gi u613 7) from rfl)).trans rfl); have q8 := (show (gi u613 8).toInt = ((gi u613 8)).toInt from (congrArg Int32.toInt (show gi u613 8 = (gi u613 8) from rfl)).trans rfl); have q9 := (show (gi u613 9).toInt = ((gi u613 9)).toInt from (congrArg Int32.toInt (show gi u613 9 = (gi u613 9) from rfl)).trans rfl); have q12 := (show (gi u613 12).toInt = ((gi u5 12)).toInt from (congrArg Int32.toInt (show gi u613 12 = (gi u5 12) from ((hUu613.1 12 rfl).trans ((gi_sa eu11).trans rfl)))).trans rfl); omega) (Un.tr Un.rf hUu613 rfl rfl rfl) hI hH hl
set_option maxHeartbeats 4000000 in
set_option maxRecDepth 100000 in
theorem kX10_hasRead_1 (l : Launch) (D : va_G) (C : Nat → ClassId) (A : Nat → Nat) (u : St) (hI : IM u) : Met l yX10_hasRead (uc yX10_hasRead cX10_hasRead 2 (some .int)) (rmL 1 0 0) (va_Pc [.ref (A 0), .int 4] (PreR D (tyl C) (mw C A u))) (vp_Si (fun r => r = ga u 7 28)) 0 0 (fun _ => False) := by
  refine mS (by decide) (Nat.le_of_ble_eq_true rfl) ?_
  intro p e s m below meth c ls ar Q hx hb hml hown hts hK hP hl hret
  have hown : s.vm.findClass RX10 = some m.cls := hown
  have hl : lv_has ls 2 [(0, .ref (A 0)), (1, .int 4)] := hl
  refine lv_aload_n hx hb dX10_hasRead_0 rfl (lv_at hl 0 rfl) ?_
  refine va_get (ci := 10) (v := .ref (A 7)) (C := RX10) (T := TX10) (N := 42) hx hb hts (fun w h => uc_in w (inX10 w h)) hown hK hP 0 (mwc0 C A u) rfl 17 (by decide) (hts _ (uc_in _ q_f1205)) (fun _ h9 => h9) rfl dX10_hasRead_1 ?_
  refine lv_bipush (v := 24) hx hb dX10_hasRead_4 (by decide) ?_
  refine lv_iload_n hx hb dX10_hasRead_6 rfl (lv_at hl 1 rfl) ?_
  refine lv_iadd hx hb dX10_hasRead_7 ?_
  refine pv_i (v := 28) (by decide) ?_
  refine va_iald hx hb hK hP 7 1 (mwc7 C A u) rfl (i_ix (X := 28) (by decide) (by decide) (by decide)) dX10_hasRead_8 ?_
  refine pv_i (v := (ga u 7 28)) rfl ?_
  have b1 : 0 ≤ ((ga u 7 28)).toInt ∧ ((ga u 7 28)).toInt ≤ 5 := hI.has 28
  exact hret _ _ (ga u 7 28) dX10_hasRead_9 rfl rfl
set_option maxHeartbeats 4000000 in
set_option maxRecDepth 100000 in
theorem kX10_isRoom_1 (l : Launch) (D : va_G) (C : Nat → ClassId) (A : Nat → Nat) (u : St) (hI : IM u) (a0 : Int32) (A0 : Int) (ha0 : a0.toInt = A0) (hPI : (gi u 9).toInt ≤ (gi u 7).toInt ∧ (gi u 7).toInt ≤ (gi u 6).toInt ∧ ((gi u 8).toInt = 0 ∨ (gi u 9).toInt < (gi u 7).toInt)) (sz : Nat) : MetI l yX10_isRoom cX10_isRoom 4 (some .boolean) 3 [.ref (A 0), .int a0, .int 4, .int 5] D (tyl C) (mw C A) X0 u sz (fun r u' => IM u' ∧ Un [(7, 7), (8, 8), (9, 9), (10, 10), (12, 12), (13, 13)] [] [] u u' ∧ (((gi u' 9).toInt ≤ (gi u' 7).toInt ∧ (gi u' 7).toInt ≤ (gi u 6).toInt ∧ ((gi u' 8).toInt = 0 ∨ (gi u' 9).toInt < (gi u' 7).toInt)) ∧ (gi u 9).toInt ≤ (gi u' 9).toInt ∧ ((r = 1 ∧ (ga u' 7 28).toInt ≤ 4) ∨ r = 0))) := by
  refine mI (by decide) (Nat.le_of_ble_eq_true rfl) ?_
  intro p e s m below meth c ls ar Q hx hb hml hown hts hK hH hX hl hret
  have hown : s.vm.findClass RX10 = some m.cls := hown
  have hl : lv_has ls 4 [(0, .ref (A 0)), (1, .int a0), (2, .int 4), (3, .int 5)] := hl
  refine lv_iload_n hx hb dX10_isRoom_0 rfl (lv_at hl 1 rfl) ?_
  refine lv_if_eq (tgt := 18) hx hb dX10_isRoom_1 (by decide) (fun c1 => ?_) (fun c1 => ?_)
  · have c1 := cEQ (x := a0) (y := 0) (X := A0) (Y := 0) ha0 (by decide) c1
    refine lv_iload_n hx hb dX10_isRoom_18 rfl (lv_at hl 1 rfl) ?_
    refine lv_if_eq (tgt := 33) hx hb dX10_isRoom_19 (by decide) (fun c2 => ?_) (fun c2 => absurd (cNE (x := a0) (y := 0) (X := A0) (Y := 0) ha0 (by decide) c2) (by omega))
    have c2 := cEQ (x := a0) (y := 0) (X := A0) (Y := 0) ha0 (by decide) c2
    refine lv_iload_n hx hb dX10_isRoom_33 rfl (lv_at hl 1 rfl) ?_
    refine lv_if_eq (tgt := 48) hx hb dX10_isRoom_34 (by decide) (fun c3 => ?_) (fun c3 => absurd (cNE (x := a0) (y := 0) (X := A0) (Y := 0) ha0 (by decide) c3) (by omega))
    have c3 := cEQ (x := a0) (y := 0) (X := A0) (Y := 0) ha0 (by decide) c3
    refine lv_iconst (v := 0) hx hb dX10_isRoom_48 (by decide) ?_
    exact hret _ _ _ _ (0 : Int32) _ dX10_isRoom_49 rfl ⟨hI, Un.rf, ⟨by have q6 := (show (gi u 6).toInt = ((gi u 6)).toInt from (congrArg Int32.toInt (show gi u 6 = (gi u 6) from rfl)).trans rfl); have q7 := (show (gi u 7).toInt = ((gi u 7)).toInt from (congrArg Int32.toInt (show gi u 7 = (gi u 7) from rfl)).trans rfl); have q8 := (show (gi u 8).toInt = ((gi u 8)).toInt from (congrArg Int32.toInt (show gi u 8 = (gi u 8) from rfl)).trans rfl); have q9 := (show (gi u 9).toInt = ((gi u 9)).toInt from (congrArg Int32.toInt (show gi u 9 = (gi u 9) from rfl)).trans rfl); have q12 := (show (gi u 12).toInt = ((gi u 12)).toInt from (congrArg Int32.toInt (show gi u 12 = (gi u 12) from rfl)).trans rfl); omega, by have q6 := (show (gi u 6).toInt = ((gi u 6)).toInt from (congrArg Int32.toInt (show gi u 6 = (gi u 6) from rfl)).trans rfl); have q7 := (show (gi u 7).toInt = ((gi u 7)).toInt from (congrArg Int32.toInt (show gi u 7 = (gi u 7) from rfl)).trans rfl); have q8 := (show (gi u 8).toInt = ((gi u 8)).toInt from (congrArg Int32.toInt (show gi u 8 = (gi u 8) from rfl)).trans rfl); have q9 := (show (gi u 9).toInt = ((gi u 9)).toInt from (congrArg Int32.toInt (show gi u 9 = (gi u 9) from rfl)).trans rfl); have q12 := (show (gi u 12).toInt = ((gi u 12)).toInt from (congrArg Int32.toInt (show gi u 12 = (gi u 12) from rfl)).trans rfl); omega, (Or.inr rfl)⟩⟩ hH
  · have c1 := cNE (x := a0) (y := 0) (X := A0) (Y := 0) ha0 (by decide) c1
    refine lv_aload_n hx hb dX10_isRoom_4 rfl (lv_at hl 0 rfl) ?_
    refine lv_iload_n hx hb dX10_isRoom_5 rfl (lv_at hl 2 rfl) ?_
    refine cvS (n := 1) (As := [.int 4]) (rest := []) ⟨hx, hb, hml, hown, hts⟩ uc_in (kX10_hasRead_1 l D C A u hI ) q_m1424 q_n1426 q_p66 q_i11 q_c1427 hvX10_hasRead ⟨(Nat.le_of_ble_eq_true rfl), (Nat.le_of_ble_eq_true rfl)⟩ ⟨(Nat.le_of_ble_eq_true rfl), (Nat.le_of_ble_eq_true rfl)⟩ hK hH.1 10 0 rfl (mwc0 C A u) rfl hl.1 rfl (Nat.le_of_ble_eq_true rfl) dX10_isRoom_6 (fun r4 p5 => ?_)
    subst p5
    have b6 : 0 ≤ ((ga u 7 28)).toInt ∧ ((ga u 7 28)).toInt ≤ 5 := hI.has 28
    refine lv_iload_n hx hb dX10_isRoom_9 rfl (lv_at hl 3 rfl) ?_
    refine lv_icmp_ne (tgt := 18) hx hb dX10_isRoom_10 (by decide) (fun c7 => ?_) (fun c7 => ?_)
    · have c7 := cNE (x := (ga u 7 28)) (y := 5) (X := ((ga u 7 28)).toInt) (Y := 5) rfl (by decide) c7
      refine lv_iload_n hx hb dX10_isRoom_18 rfl (lv_at hl 1 rfl) ?_
      refine lv_if_eq (tgt := 33) hx hb dX10_isRoom_19 (by decide) (fun c8 => ?_) (fun c8 => ?_)
      · have c8 := cEQ (x := a0) (y := 0) (X := A0) (Y := 0) ha0 (by decide) c8
        refine lv_iload_n hx hb dX10_isRoom_33 rfl (lv_at hl 1 rfl) ?_
        refine lv_if_eq (tgt := 48) hx hb dX10_isRoom_34 (by decide) (fun c9 => ?_) (fun c9 => absurd (cNE (x := a0) (y := 0) (X := A0) (Y := 0) ha0 (by decide) c9) (by omega))
        have c9 := cEQ (x := a0) (y := 0) (X := A0) (Y := 0) ha0 (by decide) c9
        refine lv_iconst (v := 0) hx hb dX10_isRoom_48 (by decide) ?_
        exact hret _ _ _ _ (0 : Int32) _ dX10_isRoom_49 rfl ⟨hI, Un.rf, ⟨by have q6 := (show (gi u 6).toInt = ((gi u 6)).toInt from (congrArg Int32.toInt (show gi u 6 = (gi u 6) from rfl)).trans rfl); have q7 := (show (gi u 7).toInt = ((gi u 7)).toInt from (congrArg Int32.toInt (show gi u 7 = (gi u 7) from rfl)).trans rfl); have q8 := (show (gi u 8).toInt = ((gi u 8)).toInt from (congrArg Int32.toInt (show gi u 8 = (gi u 8) from rfl)).trans rfl); have q9 := (show (gi u 9).toInt = ((gi u 9)).toInt from (congrArg Int32.toInt (show gi u 9 = (gi u 9) from rfl)).trans rfl); have q12 := (show (gi u 12).toInt = ((gi u 12)).toInt from (congrArg Int32.toInt (show gi u 12 = (gi u 12) from rfl)).trans rfl); omega, by have q6 := (show (gi u 6).toInt = ((gi u 6)).toInt from (congrArg Int32.toInt (show gi u 6 = (gi u 6) from rfl)).trans rfl); have q7 := (show (gi u 7).toInt = ((gi u 7)).toInt from (congrArg Int32.toInt (show gi u 7 = (gi u 7) from rfl)).trans rfl); have q8 := (show (gi u 8).toInt = ((gi u 8)).toInt from (congrArg Int32.toInt (show gi u 8 = (gi u 8) from rfl)).trans rfl); have q9 := (show (gi u 9).toInt = ((gi u 9)).toInt from (congrArg Int32.toInt (show gi u 9 = (gi u 9) from rfl)).trans rfl); have q12 := (show (gi u 12).toInt = ((gi u 12)).toInt from (congrArg Int32.toInt (show gi u 12 = (gi u 12) from rfl)).trans rfl); omega, (Or.inr rfl)⟩⟩ hH
      · have c8 := cNE (x := a0) (y := 0) (X := A0) (Y := 0) ha0 (by decide) c8
        refine lv_aload_n hx hb dX10_isRoom_22 rfl (lv_at hl 0 rfl) ?_
        refine va_get (ci := 10) (v := .int (gi u 12)) (C := RX10) (T := TX10) (N := 42) hx hb hts (fun w h => uc_in w (inX10 w h)) hown hK hH.1 0 (mwc0 C A u) rfl 12 (by decide) (hts _ (uc_in _ q_f1200)) (fun _ h9 => h9) rfl dX10_isRoom_23 ?_
        refine lv_if_ne (tgt := 33) hx hb dX10_isRoom_26 (by decide) (fun c10 => ?_) (fun c10 => ?_)
        · have c10 := cNE (x := (gi u 12)) (y := 0) (X := ((gi u 12)).toInt) (Y := 0) rfl (by decide) c10
          refine lv_iload_n hx hb dX10_isRoom_33 rfl (lv_at hl 1 rfl) ?_
          refine lv_if_eq (tgt := 48) hx hb dX10_isRoom_34 (by decide) (fun c11 => ?_) (fun c11 => ?_)
          · have c11 := cEQ (x := a0) (y := 0) (X := A0) (Y := 0) ha0 (by decide) c11
            refine lv_iconst (v := 0) hx hb dX10_isRoom_48 (by decide) ?_
            exact hret _ _ _ _ (0 : Int32) _ dX10_isRoom_49 rfl ⟨hI, Un.rf, ⟨by have q6 := (show (gi u 6).toInt = ((gi u 6)).toInt from (congrArg Int32.toInt (show gi u 6 = (gi u 6) from rfl)).trans rfl); have q7 := (show (gi u 7).toInt = ((gi u 7)).toInt from (congrArg Int32.toInt (show gi u 7 = (gi u 7) from rfl)).trans rfl); have q8 := (show (gi u 8).toInt = ((gi u 8)).toInt from (congrArg Int32.toInt (show gi u 8 = (gi u 8) from rfl)).trans rfl); have q9 := (show (gi u 9).toInt = ((gi u 9)).toInt from (congrArg Int32.toInt (show gi u 9 = (gi u 9) from rfl)).trans rfl); have q12 := (show (gi u 12).toInt = ((gi u 12)).toInt from (congrArg Int32.toInt (show gi u 12 = (gi u 12) from rfl)).trans rfl); omega, by have q6 := (show (gi u 6).toInt = ((gi u 6)).toInt from (congrArg Int32.toInt (show gi u 6 = (gi u 6) from rfl)).trans rfl); have q7 := (show (gi u 7).toInt = ((gi u 7)).toInt from (congrArg Int32.toInt (show gi u 7 = (gi u 7) from rfl)).trans rfl); have q8 := (show (gi u 8).toInt = ((gi u 8)).toInt from (congrArg Int32.toInt (show gi u 8 = (gi u 8) from rfl)).trans rfl); have q9 := (show (gi u 9).toInt = ((gi u 9)).toInt from (congrArg Int32.toInt (show gi u 9 = (gi u 9) from rfl)).trans rfl); have q12 := (show (gi u 12).toInt = ((gi u 12)).toInt from (congrArg Int32.toInt (show gi u 12 = (gi u 12) from rfl)).trans rfl); omega, (Or.inr rfl)⟩⟩ hH
          · have c11 := cNE (x := a0) (y := 0) (X := A0) (Y := 0) ha0 (by decide) c11
            refine lv_aload_n hx hb dX10_isRoom_37 rfl (lv_at hl 0 rfl) ?_
            refine va_get (ci := 10) (v := .int (gi u 12)) (C := RX10) (T := TX10) (N := 42) hx hb hts (fun w h => uc_in w (inX10 w h)) hown hK hH.1 0 (mwc0 C A u) rfl 12 (by decide) (hts _ (uc_in _ q_f1200)) (fun _ h9 => h9) rfl dX10_isRoom_38 ?_
            refine lv_if_ne (tgt := 48) hx hb dX10_isRoom_41 (by decide) (fun c12 => ?_) (fun c12 => ?_)
            · have c12 := cNE (x := (gi u 12)) (y := 0) (X := ((gi u 12)).toInt) (Y := 0) rfl (by decide) c12
              refine lv_iconst (v := 0) hx hb dX10_isRoom_48 (by decide) ?_
              exact hret _ _ _ _ (0 : Int32) _ dX10_isRoom_49 rfl ⟨hI, Un.rf, ⟨by have q6 := (show (gi u 6).toInt = ((gi u 6)).toInt from (congrArg Int32.toInt (show gi u 6 = (gi u 6) from rfl)).trans rfl); have q7 := (show (gi u 7).toInt = ((gi u 7)).toInt from (congrArg Int32.toInt (show gi u 7 = (gi u 7) from rfl)).trans rfl); have q8 := (show (gi u 8).toInt = ((gi u 8)).toInt from (congrArg Int32.toInt (show gi u 8 = (gi u 8) from rfl)).trans rfl); have q9 := (show (gi u 9).toInt = ((gi u 9)).toInt from (congrArg Int32.toInt (show gi u 9 = (gi u 9) from rfl)).trans rfl); have q12 := (show (gi u 12).toInt = ((gi u 12)).toInt from (congrArg Int32.toInt (show gi u 12 = (gi u 12) from rfl)).trans rfl); omega, by have q6 := (show (gi u 6).toInt = ((gi u 6)).toInt from (congrArg Int32.toInt (show gi u 6 = (gi u 6) from rfl)).trans rfl); have q7 := (show (gi u 7).toInt = ((gi u 7)).toInt from (congrArg Int32.toInt (show gi u 7 = (gi u 7) from rfl)).trans rfl); have q8 := (show (gi u 8).toInt = ((gi u 8)).toInt from (congrArg Int32.toInt (show gi u 8 = (gi u 8) from rfl)).trans rfl); have q9 := (show (gi u 9).toInt = ((gi u 9)).toInt from (congrArg Int32.toInt (show gi u 9 = (gi u 9) from rfl)).trans rfl); have q12 := (show (gi u 12).toInt = ((gi u 12)).toInt from (congrArg Int32.toInt (show gi u 12 = (gi u 12) from rfl)).trans rfl); omega, (Or.inr rfl)⟩⟩ hH
            · have c12 := cEQ (x := (gi u 12)) (y := 0) (X := ((gi u 12)).toInt) (Y := 0) rfl (by decide) c12
              refine lv_iconst (v := 1) hx hb dX10_isRoom_44 (by decide) ?_
              refine lv_goto (tgt := 49) hx hb dX10_isRoom_45 (by decide) ?_
              exact hret _ _ _ _ (1 : Int32) _ dX10_isRoom_49 rfl ⟨hI, Un.rf, ⟨by have q6 := (show (gi u 6).toInt = ((gi u 6)).toInt from (congrArg Int32.toInt (show gi u 6 = (gi u 6) from rfl)).trans rfl); have q7 := (show (gi u 7).toInt = ((gi u 7)).toInt from (congrArg Int32.toInt (show gi u 7 = (gi u 7) from rfl)).trans rfl); have q8 := (show (gi u 8).toInt = ((gi u 8)).toInt from (congrArg Int32.toInt (show gi u 8 = (gi u 8) from rfl)).trans rfl); have q9 := (show (gi u 9).toInt = ((gi u 9)).toInt from (congrArg Int32.toInt (show gi u 9 = (gi u 9) from rfl)).trans rfl); have q12 := (show (gi u 12).toInt = ((gi u 12)).toInt from (congrArg Int32.toInt (show gi u 12 = (gi u 12) from rfl)).trans rfl); omega, by have q6 := (show (gi u 6).toInt = ((gi u 6)).toInt from (congrArg Int32.toInt (show gi u 6 = (gi u 6) from rfl)).trans rfl); have q7 := (show (gi u 7).toInt = ((gi u 7)).toInt from (congrArg Int32.toInt (show gi u 7 = (gi u 7) from rfl)).trans rfl); have q8 := (show (gi u 8).toInt = ((gi u 8)).toInt from (congrArg Int32.toInt (show gi u 8 = (gi u 8) from rfl)).trans rfl); have q9 := (show (gi u 9).toInt = ((gi u 9)).toInt from (congrArg Int32.toInt (show gi u 9 = (gi u 9) from rfl)).trans rfl); have q12 := (show (gi u 12).toInt = ((gi u 12)).toInt from (congrArg Int32.toInt (show gi u 12 = (gi u 12) from rfl)).trans rfl); omega, (Or.inl ⟨rfl, by have q7 : (ga u 7 28).toInt ≤ 5 := (hI.has 28).2; have q6 := (show (ga u 7 28).toInt = ((ga u 7 28)).toInt from (congrArg Int32.toInt (show ga u 7 28 = (ga u 7 28) from rfl)).trans rfl); have q6 := (show (gi u 6).toInt = ((gi u 6)).toInt from (congrArg Int32.toInt (show gi u 6 = (gi u 6) from rfl)).trans rfl); have q7 := (show (gi u 7).toInt = ((gi u 7)).toInt from (congrArg Int32.toInt (show gi u 7 = (gi u 7) from rfl)).trans rfl); have q8 := (show (gi u 8).toInt = ((gi u 8)).toInt from (congrArg Int32.toInt (show gi u 8 = (gi u 8) from rfl)).trans rfl); have q9 := (show (gi u 9).toInt = ((gi u 9)).toInt from (congrArg Int32.toInt (show gi u 9 = (gi u 9) from rfl)).trans rfl); have q12 := (show (gi u 12).toInt = ((gi u 12)).toInt from (congrArg Int32.toInt (show gi u 12 = (gi u 12) from rfl)).trans rfl); omega⟩)⟩⟩ hH
        · have c10 := cEQ (x := (gi u 12)) (y := 0) (X := ((gi u 12)).toInt) (Y := 0) rfl (by decide) c10
          refine lv_aload_n hx hb dX10_isRoom_29 rfl (lv_at hl 0 rfl) ?_
          refine cvU (n := 0) (As := []) (rest := []) ⟨hx, hb, hml, hown, hts⟩ uc_in (kX10_next_0 l D C A u hI (by have q5 := hI.b6; omega) _) q_m1370 q_n1372 q_p55 q_i11 q_c1373 hvX10_next ⟨(Nat.le_of_ble_eq_true rfl), (Nat.le_of_ble_eq_true rfl)⟩ ⟨(Nat.le_of_ble_eq_true rfl), (Nat.le_of_ble_eq_true rfl)⟩ hK hH (fun q h => Or.inr h) Bl0 (fun _ _ _ => trivial) 10 0 rfl (mwc0 C A u) rfl hl.1 rfl (Nat.le_of_ble_eq_true rfl) dX10_isRoom_30 (fun u13 H locs p15 hH => ?_)
          obtain ⟨hI, hUu13, p15⟩ := p15
          refine lv_iload_n hx hb dX10_isRoom_33 rfl (lv_at hl 1 rfl) ?_
          refine lv_if_eq (tgt := 48) hx hb dX10_isRoom_34 (by decide) (fun c16 => ?_) (fun c16 => ?_)
          · have c16 := cEQ (x := a0) (y := 0) (X := A0) (Y := 0) ha0 (by decide) c16
            refine lv_iconst (v := 0) hx hb dX10_isRoom_48 (by decide) ?_
            exact hret _ _ _ _ (0 : Int32) _ dX10_isRoom_49 rfl ⟨hI, (Un.tr Un.rf hUu13 rfl rfl rfl), ⟨by have q6 := (show (gi u13 6).toInt = ((gi u 6)).toInt from (congrArg Int32.toInt (show gi u13 6 = (gi u 6) from ((hUu13.1 6 rfl).trans rfl))).trans rfl); have q7 := (show (gi u13 7).toInt = ((gi u13 7)).toInt from (congrArg Int32.toInt (show gi u13 7 = (gi u13 7) from rfl)).trans rfl); have q8 := (show (gi u13 8).toInt = ((gi u13 8)).toInt from (congrArg Int32.toInt (show gi u13 8 = (gi u13 8) from rfl)).trans rfl); have q9 := (show (gi u13 9).toInt = ((gi u13 9)).toInt from (congrArg Int32.toInt (show gi u13 9 = (gi u13 9) from rfl)).trans rfl); have q12 := (show (gi u13 12).toInt = ((gi u 12)).toInt from (congrArg Int32.toInt (show gi u13 12 = (gi u 12) from ((hUu13.1 12 rfl).trans rfl))).trans rfl); omega, by have q6 := (show (gi u13 6).toInt = ((gi u 6)).toInt from (congrArg Int32.toInt (show gi u13 6 = (gi u 6) from ((hUu13.1 6 rfl).trans rfl))).trans rfl); have q7 := (show (gi u13 7).toInt = ((gi u13 7)).toInt from (congrArg Int32.toInt (show gi u13 7 = (gi u13 7) from rfl)).trans rfl); have q8 := (show (gi u13 8).toInt = ((gi u13 8)).toInt from (congrArg Int32.toInt (show gi u13 8 = (gi u13 8) from rfl)).trans rfl); have q9 := (show (gi u13 9).toInt = ((gi u13 9)).toInt from (congrArg Int32.toInt (show gi u13 9 = (gi u13 9) from rfl)).trans rfl); have q12 := (show (gi u13 12).toInt = ((gi u 12)).toInt from (congrArg Int32.toInt (show gi u13 12 = (gi u 12) from ((hUu13.1 12 rfl).trans rfl))).trans rfl); omega, (Or.inr rfl)⟩⟩ hH
          · have c16 := cNE (x := a0) (y := 0) (X := A0) (Y := 0) ha0 (by decide) c16
            refine lv_aload_n hx hb dX10_isRoom_37 rfl (lv_at hl 0 rfl) ?_
            refine va_get (ci := 10) (v := .int (gi u13 12)) (C := RX10) (T := TX10) (N := 42) hx hb hts (fun w h => uc_in w (inX10 w h)) hown hK hH.1 0 (mwc0 C A u13) rfl 12 (by decide) (hts _ (uc_in _ q_f1200)) (fun _ h9 => h9) rfl dX10_isRoom_38 ?_
            refine pv_i (v := (gi u 12)) ((hUu13.1 12 rfl).trans rfl) ?_
            refine lv_if_ne (tgt := 48) hx hb dX10_isRoom_41 (by decide) (fun c17 => absurd (cNE (x := (gi u 12)) (y := 0) (X := ((gi u 12)).toInt) (Y := 0) rfl (by decide) c17) (by omega)) (fun c17 => ?_)
            have c17 := cEQ (x := (gi u 12)) (y := 0) (X := ((gi u 12)).toInt) (Y := 0) rfl (by decide) c17
            refine lv_iconst (v := 1) hx hb dX10_isRoom_44 (by decide) ?_
            refine lv_goto (tgt := 49) hx hb dX10_isRoom_45 (by decide) ?_
            exact hret _ _ _ _ (1 : Int32) _ dX10_isRoom_49 rfl ⟨hI, (Un.tr Un.rf hUu13 rfl rfl rfl), ⟨by have q6 := (show (gi u13 6).toInt = ((gi u 6)).toInt from (congrArg Int32.toInt (show gi u13 6 = (gi u 6) from ((hUu13.1 6 rfl).trans rfl))).trans rfl); have q7 := (show (gi u13 7).toInt = ((gi u13 7)).toInt from (congrArg Int32.toInt (show gi u13 7 = (gi u13 7) from rfl)).trans rfl); have q8 := (show (gi u13 8).toInt = ((gi u13 8)).toInt from (congrArg Int32.toInt (show gi u13 8 = (gi u13 8) from rfl)).trans rfl); have q9 := (show (gi u13 9).toInt = ((gi u13 9)).toInt from (congrArg Int32.toInt (show gi u13 9 = (gi u13 9) from rfl)).trans rfl); have q12 := (show (gi u13 12).toInt = ((gi u 12)).toInt from (congrArg Int32.toInt (show gi u13 12 = (gi u 12) from ((hUu13.1 12 rfl).trans rfl))).trans rfl); omega, by have q6 := (show (gi u13 6).toInt = ((gi u 6)).toInt from (congrArg Int32.toInt (show gi u13 6 = (gi u 6) from ((hUu13.1 6 rfl).trans rfl))).trans rfl); have q7 := (show (gi u13 7).toInt = ((gi u13 7)).toInt from (congrArg Int32.toInt (show gi u13 7 = (gi u13 7) from rfl)).trans rfl); have q8 := (show (gi u13 8).toInt = ((gi u13 8)).toInt from (congrArg Int32.toInt (show gi u13 8 = (gi u13 8) from rfl)).trans rfl); have q9 := (show (gi u13 9).toInt = ((gi u13 9)).toInt from (congrArg Int32.toInt (show gi u13 9 = (gi u13 9) from rfl)).trans rfl); have q12 := (show (gi u13 12).toInt = ((gi u 12)).toInt from (congrArg Int32.toInt (show gi u13 12 = (gi u 12) from ((hUu13.1 12 rfl).trans rfl))).trans rfl); omega, (Or.inl ⟨rfl, by have q7 : (ga u13 7 28).toInt ≤ 5 := (hI.has 28).2; have q6 := (show (ga u13 7 28).toInt = ((ga u 7 28)).toInt from (congrArg Int32.toInt (show ga u13 7 28 = (ga u 7 28) from ((congrFun (hUu13.2.1 7 rfl) _).trans rfl))).trans rfl); have q6 := (show (gi u13 6).toInt = ((gi u 6)).toInt from (congrArg Int32.toInt (show gi u13 6 = (gi u 6) from ((hUu13.1 6 rfl).trans rfl))).trans rfl); have q7 := (show (gi u13 7).toInt = ((gi u13 7)).toInt from (congrArg Int32.toInt (show gi u13 7 = (gi u13 7) from rfl)).trans rfl); have q8 := (show (gi u13 8).toInt = ((gi u13 8)).toInt from (congrArg Int32.toInt (show gi u13 8 = (gi u13 8) from rfl)).trans rfl); have q9 := (show (gi u13 9).toInt = ((gi u13 9)).toInt from (congrArg Int32.toInt (show gi u13 9 = (gi u13 9) from rfl)).trans rfl); have q12 := (show (gi u13 12).toInt = ((gi u 12)).toInt from (congrArg Int32.toInt (show gi u13 12 = (gi u 12) from ((hUu13.1 12 rfl).trans rfl))).trans rfl); omega⟩)⟩⟩ hH
    · have c7 := cEQ (x := (ga u 7 28)) (y := 5) (X := ((ga u 7 28)).toInt) (Y := 5) rfl (by decide) c7
      refine lv_aload_n hx hb dX10_isRoom_13 rfl (lv_at hl 0 rfl) ?_
      refine lv_iconst (v := 3) hx hb dX10_isRoom_14 (by decide) ?_
      refine cvU (n := 1) (As := [.int 3]) (rest := []) ⟨hx, hb, hml, hown, hts⟩ uc_in (kX10_fails_0 l D C A u hI  _) q_m1400 q_n1402 q_p61 q_i11 q_c1403 hvX10_fails ⟨(Nat.le_of_ble_eq_true rfl), (Nat.le_of_ble_eq_true rfl)⟩ ⟨(Nat.le_of_ble_eq_true rfl), (Nat.le_of_ble_eq_true rfl)⟩ hK hH (fun q h => Or.inr h) Bl0 (fun _ _ _ => trivial) 10 0 rfl (mwc0 C A u) rfl hl.1 rfl (Nat.le_of_ble_eq_true rfl) dX10_isRoom_15 (fun u18 H locs p20 hH => ?_)
      obtain ⟨hI, hUu18, p20⟩ := p20
      refine lv_iload_n hx hb dX10_isRoom_18 rfl (lv_at hl 1 rfl) ?_
      refine lv_if_eq (tgt := 33) hx hb dX10_isRoom_19 (by decide) (fun c21 => ?_) (fun c21 => ?_)
      · have c21 := cEQ (x := a0) (y := 0) (X := A0) (Y := 0) ha0 (by decide) c21
        refine lv_iload_n hx hb dX10_isRoom_33 rfl (lv_at hl 1 rfl) ?_
        refine lv_if_eq (tgt := 48) hx hb dX10_isRoom_34 (by decide) (fun c22 => ?_) (fun c22 => absurd (cNE (x := a0) (y := 0) (X := A0) (Y := 0) ha0 (by decide) c22) (by omega))
        have c22 := cEQ (x := a0) (y := 0) (X := A0) (Y := 0) ha0 (by decide) c22
        refine lv_iconst (v := 0) hx hb dX10_isRoom_48 (by decide) ?_
        exact hret _ _ _ _ (0 : Int32) _ dX10_isRoom_49 rfl ⟨hI, (Un.tr Un.rf hUu18 rfl rfl rfl), ⟨by have q6 := (show (gi u18 6).toInt = ((gi u 6)).toInt from (congrArg Int32.toInt (show gi u18 6 = (gi u 6) from ((hUu18.1 6 rfl).trans rfl))).trans rfl); have q7 := (show (gi u18 7).toInt = ((gi u 7)).toInt from (congrArg Int32.toInt (show gi u18 7 = (gi u 7) from ((hUu18.1 7 rfl).trans rfl))).trans rfl); have q8 := (show (gi u18 8).toInt = ((gi u 8)).toInt from (congrArg Int32.toInt (show gi u18 8 = (gi u 8) from ((hUu18.1 8 rfl).trans rfl))).trans rfl); have q9 := (show (gi u18 9).toInt = ((gi u 9)).toInt from (congrArg Int32.toInt (show gi u18 9 = (gi u 9) from ((hUu18.1 9 rfl).trans rfl))).trans rfl); have q12 := (show (gi u18 12).toInt = ((gi u18 12)).toInt from (congrArg Int32.toInt (show gi u18 12 = (gi u18 12) from rfl)).trans rfl); omega, by have q6 := (show (gi u18 6).toInt = ((gi u 6)).toInt from (congrArg Int32.toInt (show gi u18 6 = (gi u 6) from ((hUu18.1 6 rfl).trans rfl))).trans rfl); have q7 := (show (gi u18 7).toInt = ((gi u 7)).toInt from (congrArg Int32.toInt (show gi u18 7 = (gi u 7) from ((hUu18.1 7 rfl).trans rfl))).trans rfl); have q8 := (show (gi u18 8).toInt = ((gi u 8)).toInt from (congrArg Int32.toInt (show gi u18 8 = (gi u 8) from ((hUu18.1 8 rfl).trans rfl))).trans rfl); have q9 := (show (gi u18 9).toInt = ((gi u 9)).toInt from (congrArg Int32.toInt (show gi u18 9 = (gi u 9) from ((hUu18.1 9 rfl).trans rfl))).trans rfl); have q12 := (show (gi u18 12).toInt = ((gi u18 12)).toInt from (congrArg Int32.toInt (show gi u18 12 = (gi u18 12) from rfl)).trans rfl); omega, (Or.inr rfl)⟩⟩ hH
      · have c21 := cNE (x := a0) (y := 0) (X := A0) (Y := 0) ha0 (by decide) c21
        refine lv_aload_n hx hb dX10_isRoom_22 rfl (lv_at hl 0 rfl) ?_
        refine va_get (ci := 10) (v := .int (gi u18 12)) (C := RX10) (T := TX10) (N := 42) hx hb hts (fun w h => uc_in w (inX10 w h)) hown hK hH.1 0 (mwc0 C A u18) rfl 12 (by decide) (hts _ (uc_in _ q_f1200)) (fun _ h9 => h9) rfl dX10_isRoom_23 ?_
        refine lv_if_ne (tgt := 33) hx hb dX10_isRoom_26 (by decide) (fun c23 => ?_) (fun c23 => ?_)
        · have c23 := cNE (x := (gi u18 12)) (y := 0) (X := ((gi u18 12)).toInt) (Y := 0) rfl (by decide) c23
          refine lv_iload_n hx hb dX10_isRoom_33 rfl (lv_at hl 1 rfl) ?_
          refine lv_if_eq (tgt := 48) hx hb dX10_isRoom_34 (by decide) (fun c24 => ?_) (fun c24 => ?_)
          · have c24 := cEQ (x := a0) (y := 0) (X := A0) (Y := 0) ha0 (by decide) c24
            refine lv_iconst (v := 0) hx hb dX10_isRoom_48 (by decide) ?_
            exact hret _ _ _ _ (0 : Int32) _ dX10_isRoom_49 rfl ⟨hI, (Un.tr Un.rf hUu18 rfl rfl rfl), ⟨by have q6 := (show (gi u18 6).toInt = ((gi u 6)).toInt from (congrArg Int32.toInt (show gi u18 6 = (gi u 6) from ((hUu18.1 6 rfl).trans rfl))).trans rfl); have q7 := (show (gi u18 7).toInt = ((gi u 7)).toInt from (congrArg Int32.toInt (show gi u18 7 = (gi u 7) from ((hUu18.1 7 rfl).trans rfl))).trans rfl); have q8 := (show (gi u18 8).toInt = ((gi u 8)).toInt from (congrArg Int32.toInt (show gi u18 8 = (gi u 8) from ((hUu18.1 8 rfl).trans rfl))).trans rfl); have q9 := (show (gi u18 9).toInt = ((gi u 9)).toInt from (congrArg Int32.toInt (show gi u18 9 = (gi u 9) from ((hUu18.1 9 rfl).trans rfl))).trans rfl); have q12 := (show (gi u18 12).toInt = ((gi u18 12)).toInt from (congrArg Int32.toInt (show gi u18 12 = (gi u18 12) from rfl)).trans rfl); omega, by have q6 := (show (gi u18 6).toInt = ((gi u 6)).toInt from (congrArg Int32.toInt (show gi u18 6 = (gi u 6) from ((hUu18.1 6 rfl).trans rfl))).trans rfl); have q7 := (show (gi u18 7).toInt = ((gi u 7)).toInt from (congrArg Int32.toInt (show gi u18 7 = (gi u 7) from ((hUu18.1 7 rfl).trans rfl))).trans rfl); have q8 := (show (gi u18 8).toInt = ((gi u 8)).toInt from (congrArg Int32.toInt (show gi u18 8 = (gi u 8) from ((hUu18.1 8 rfl).trans rfl))).trans rfl); have q9 := (show (gi u18 9).toInt = ((gi u 9)).toInt from (congrArg Int32.toInt (show gi u18 9 = (gi u 9) from ((hUu18.1 9 rfl).trans rfl))).trans rfl); have q12 := (show (gi u18 12).toInt = ((gi u18 12)).toInt from (congrArg Int32.toInt (show gi u18 12 = (gi u18 12) from rfl)).trans rfl); omega, (Or.inr rfl)⟩⟩ hH
          · have c24 := cNE (x := a0) (y := 0) (X := A0) (Y := 0) ha0 (by decide) c24
            refine lv_aload_n hx hb dX10_isRoom_37 rfl (lv_at hl 0 rfl) ?_
            refine va_get (ci := 10) (v := .int (gi u18 12)) (C := RX10) (T := TX10) (N := 42) hx hb hts (fun w h => uc_in w (inX10 w h)) hown hK hH.1 0 (mwc0 C A u18) rfl 12 (by decide) (hts _ (uc_in _ q_f1200)) (fun _ h9 => h9) rfl dX10_isRoom_38 ?_
            refine lv_if_ne (tgt := 48) hx hb dX10_isRoom_41 (by decide) (fun c25 => ?_) (fun c25 => ?_)
            · have c25 := cNE (x := (gi u18 12)) (y := 0) (X := ((gi u18 12)).toInt) (Y := 0) rfl (by decide) c25
              refine lv_iconst (v := 0) hx hb dX10_isRoom_48 (by decide) ?_
              exact hret _ _ _ _ (0 : Int32) _ dX10_isRoom_49 rfl ⟨hI, (Un.tr Un.rf hUu18 rfl rfl rfl), ⟨by have q6 := (show (gi u18 6).toInt = ((gi u 6)).toInt from (congrArg Int32.toInt (show gi u18 6 = (gi u 6) from ((hUu18.1 6 rfl).trans rfl))).trans rfl); have q7 := (show (gi u18 7).toInt = ((gi u 7)).toInt from (congrArg Int32.toInt (show gi u18 7 = (gi u 7) from ((hUu18.1 7 rfl).trans rfl))).trans rfl); have q8 := (show (gi u18 8).toInt = ((gi u 8)).toInt from (congrArg Int32.toInt (show gi u18 8 = (gi u 8) from ((hUu18.1 8 rfl).trans rfl))).trans rfl); have q9 := (show (gi u18 9).toInt = ((gi u 9)).toInt from (congrArg Int32.toInt (show gi u18 9 = (gi u 9) from ((hUu18.1 9 rfl).trans rfl))).trans rfl); have q12 := (show (gi u18 12).toInt = ((gi u18 12)).toInt from (congrArg Int32.toInt (show gi u18 12 = (gi u18 12) from rfl)).trans rfl); omega, by have q6 := (show (gi u18 6).toInt = ((gi u 6)).toInt from (congrArg Int32.toInt (show gi u18 6 = (gi u 6) from ((hUu18.1 6 rfl).trans rfl))).trans rfl); have q7 := (show (gi u18 7).toInt = ((gi u 7)).toInt from (congrArg Int32.toInt (show gi u18 7 = (gi u 7) from ((hUu18.1 7 rfl).trans rfl))).trans rfl); have q8 := (show (gi u18 8).toInt = ((gi u 8)).toInt from (congrArg Int32.toInt (show gi u18 8 = (gi u 8) from ((hUu18.1 8 rfl).trans rfl))).trans rfl); have q9 := (show (gi u18 9).toInt = ((gi u 9)).toInt from (congrArg Int32.toInt (show gi u18 9 = (gi u 9) from ((hUu18.1 9 rfl).trans rfl))).trans rfl); have q12 := (show (gi u18 12).toInt = ((gi u18 12)).toInt from (congrArg Int32.toInt (show gi u18 12 = (gi u18 12) from rfl)).trans rfl); omega, (Or.inr rfl)⟩⟩ hH
            · have c25 := cEQ (x := (gi u18 12)) (y := 0) (X := ((gi u18 12)).toInt) (Y := 0) rfl (by decide) c25
              refine lv_iconst (v := 1) hx hb dX10_isRoom_44 (by decide) ?_
              refine lv_goto (tgt := 49) hx hb dX10_isRoom_45 (by decide) ?_
              exact hret _ _ _ _ (1 : Int32) _ dX10_isRoom_49 rfl ⟨hI, (Un.tr Un.rf hUu18 rfl rfl rfl), ⟨by have q6 := (show (gi u18 6).toInt = ((gi u 6)).toInt from (congrArg Int32.toInt (show gi u18 6 = (gi u 6) from ((hUu18.1 6 rfl).trans rfl))).trans rfl); have q7 := (show (gi u18 7).toInt = ((gi u 7)).toInt from (congrArg Int32.toInt (show gi u18 7 = (gi u 7) from ((hUu18.1 7 rfl).trans rfl))).trans rfl); have q8 := (show (gi u18 8).toInt = ((gi u 8)).toInt from (congrArg Int32.toInt (show gi u18 8 = (gi u 8) from ((hUu18.1 8 rfl).trans rfl))).trans rfl); have q9 := (show (gi u18 9).toInt = ((gi u 9)).toInt from (congrArg Int32.toInt (show gi u18 9 = (gi u 9) from ((hUu18.1 9 rfl).trans rfl))).trans rfl); have q12 := (show (gi u18 12).toInt = ((gi u18 12)).toInt from (congrArg Int32.toInt (show gi u18 12 = (gi u18 12) from rfl)).trans rfl); omega, by have q6 := (show (gi u18 6).toInt = ((gi u 6)).toInt from (congrArg Int32.toInt (show gi u18 6 = (gi u 6) from ((hUu18.1 6 rfl).trans rfl))).trans rfl); have q7 := (show (gi u18 7).toInt = ((gi u 7)).toInt from (congrArg Int32.toInt (show gi u18 7 = (gi u 7) from ((hUu18.1 7 rfl).trans rfl))).trans rfl); have q8 := (show (gi u18 8).toInt = ((gi u 8)).toInt from (congrArg Int32.toInt (show gi u18 8 = (gi u 8) from ((hUu18.1 8 rfl).trans rfl))).trans rfl); have q9 := (show (gi u18 9).toInt = ((gi u 9)).toInt from (congrArg Int32.toInt (show gi u18 9 = (gi u 9) from ((hUu18.1 9 rfl).trans rfl))).trans rfl); have q12 := (show (gi u18 12).toInt = ((gi u18 12)).toInt from (congrArg Int32.toInt (show gi u18 12 = (gi u18 12) from rfl)).trans rfl); omega, (Or.inl ⟨rfl, by have q7 : (ga u18 7 28).toInt ≤ 5 := (hI.has 28).2; have q6 := (show (ga u18 7 28).toInt = ((ga u 7 28)).toInt from (congrArg Int32.toInt (show ga u18 7 28 = (ga u 7 28) from ((congrFun (hUu18.2.1 7 rfl) _).trans rfl))).trans rfl); have q6 := (show (gi u18 6).toInt = ((gi u 6)).toInt from (congrArg Int32.toInt (show gi u18 6 = (gi u 6) from ((hUu18.1 6 rfl).trans rfl))).trans rfl); have q7 := (show (gi u18 7).toInt = ((gi u 7)).toInt from (congrArg Int32.toInt (show gi u18 7 = (gi u 7) from ((hUu18.1 7 rfl).trans rfl))).trans rfl); have q8 := (show (gi u18 8).toInt = ((gi u 8)).toInt from (congrArg Int32.toInt (show gi u18 8 = (gi u 8) from ((hUu18.1 8 rfl).trans rfl))).trans rfl); have q9 := (show (gi u18 9).toInt = ((gi u 9)).toInt from (congrArg Int32.toInt (show gi u18 9 = (gi u 9) from ((hUu18.1 9 rfl).trans rfl))).trans rfl); have q12 := (show (gi u18 12).toInt = ((gi u18 12)).toInt from (congrArg Int32.toInt (show gi u18 12 = (gi u18 12) from rfl)).trans rfl); omega⟩)⟩⟩ hH
        · have c23 := cEQ (x := (gi u18 12)) (y := 0) (X := ((gi u18 12)).toInt) (Y := 0) rfl (by decide) c23
          refine lv_aload_n hx hb dX10_isRoom_29 rfl (lv_at hl 0 rfl) ?_
          have q26 := (show (gi u18 6).toInt = ((gi u 6)).toInt from (congrArg Int32.toInt (show gi u18 6 = (gi u 6) from ((hUu18.1 6 rfl).trans rfl))).trans rfl)
          have q27 := (show (gi u18 7).toInt = ((gi u 7)).toInt from (congrArg Int32.toInt (show gi u18 7 = (gi u 7) from ((hUu18.1 7 rfl).trans rfl))).trans rfl)
          have q28 := (show (gi u18 8).toInt = ((gi u 8)).toInt from (congrArg Int32.toInt (show gi u18 8 = (gi u 8) from ((hUu18.1 8 rfl).trans rfl))).trans rfl)
          have q29 := (show (gi u18 9).toInt = ((gi u 9)).toInt from (congrArg Int32.toInt (show gi u18 9 = (gi u 9) from ((hUu18.1 9 rfl).trans rfl))).trans rfl)
          refine cvU (n := 0) (As := []) (rest := []) ⟨hx, hb, hml, hown, hts⟩ uc_in (kX10_next_0 l D C A u18 hI (by have q5 := hI.b6; omega) _) q_m1370 q_n1372 q_p55 q_i11 q_c1373 hvX10_next ⟨(Nat.le_of_ble_eq_true rfl), (Nat.le_of_ble_eq_true rfl)⟩ ⟨(Nat.le_of_ble_eq_true rfl), (Nat.le_of_ble_eq_true rfl)⟩ hK hH (fun q h => Or.inr h) Bl0 (fun _ _ _ => trivial) 10 0 rfl (mwc0 C A u18) rfl hl.1 rfl (Nat.le_of_ble_eq_true rfl) dX10_isRoom_30 (fun u30 H locs p32 hH => ?_)
          obtain ⟨hI, hUu30, p32⟩ := p32
          refine lv_iload_n hx hb dX10_isRoom_33 rfl (lv_at hl 1 rfl) ?_
          refine lv_if_eq (tgt := 48) hx hb dX10_isRoom_34 (by decide) (fun c33 => ?_) (fun c33 => ?_)
          · have c33 := cEQ (x := a0) (y := 0) (X := A0) (Y := 0) ha0 (by decide) c33
            refine lv_iconst (v := 0) hx hb dX10_isRoom_48 (by decide) ?_
            exact hret _ _ _ _ (0 : Int32) _ dX10_isRoom_49 rfl ⟨hI, (Un.tr (Un.tr Un.rf hUu18 rfl rfl rfl) hUu30 rfl rfl rfl), ⟨by have q6 := (show (gi u30 6).toInt = ((gi u 6)).toInt from (congrArg Int32.toInt (show gi u30 6 = (gi u 6) from ((hUu30.1 6 rfl).trans ((hUu18.1 6 rfl).trans rfl)))).trans rfl); have q7 := (show (gi u30 7).toInt = ((gi u30 7)).toInt from (congrArg Int32.toInt (show gi u30 7 = (gi u30 7) from rfl)).trans rfl); have q8 := (show (gi u30 8).toInt = ((gi u30 8)).toInt from (congrArg Int32.toInt (show gi u30 8 = (gi u30 8) from rfl)).trans rfl); have q9 := (show (gi u30 9).toInt = ((gi u30 9)).toInt from (congrArg Int32.toInt (show gi u30 9 = (gi u30 9) from rfl)).trans rfl); have q12 := (show (gi u30 12).toInt = ((gi u18 12)).toInt from (congrArg Int32.toInt (show gi u30 12 = (gi u18 12) from ((hUu30.1 12 rfl).trans rfl))).trans rfl); omega, by have q6 := (show (gi u30 6).toInt = ((gi u 6)).toInt from (congrArg Int32.toInt (show gi u30 6 = (gi u 6) from ((hUu30.1 6 rfl).trans ((hUu18.1 6 rfl).trans rfl)))).trans rfl); have q7 := (show (gi u30 7).toInt = ((gi u30 7)).toInt from (congrArg Int32.toInt (show gi u30 7 = (gi u30 7) from rfl)).trans rfl); have q8 := (show (gi u30 8).toInt = ((gi u30 8)).toInt from (congrArg Int32.toInt (show gi u30 8 = (gi u30 8) from rfl)).trans rfl); have q9 := (show (gi u30 9).toInt = ((gi u30 9)).toInt from (congrArg Int32.toInt (show gi u30 9 = (gi u30 9) from rfl)).trans rfl); have q12 := (show (gi u30 12).toInt = ((gi u18 12)).toInt from (congrArg Int32.toInt (show gi u30 12 = (gi u18 12) from ((hUu30.1 12 rfl).trans rfl))).trans rfl); omega, (Or.inr rfl)⟩⟩ hH
          · have c33 := cNE (x := a0) (y := 0) (X := A0) (Y := 0) ha0 (by decide) c33
            refine lv_aload_n hx hb dX10_isRoom_37 rfl (lv_at hl 0 rfl) ?_
            refine va_get (ci := 10) (v := .int (gi u30 12)) (C := RX10) (T := TX10) (N := 42) hx hb hts (fun w h => uc_in w (inX10 w h)) hown hK hH.1 0 (mwc0 C A u30) rfl 12 (by decide) (hts _ (uc_in _ q_f1200)) (fun _ h9 => h9) rfl dX10_isRoom_38 ?_
            refine pv_i (v := (gi u18 12)) ((hUu30.1 12 rfl).trans rfl) ?_
            refine lv_if_ne (tgt := 48) hx hb dX10_isRoom_41 (by decide) (fun c34 => absurd (cNE (x := (gi u18 12)) (y := 0) (X := ((gi u18 12)).toInt) (Y := 0) rfl (by decide) c34) (by omega)) (fun c34 => ?_)
            have c34 := cEQ (x := (gi u18 12)) (y := 0) (X := ((gi u18 12)).toInt) (Y := 0) rfl (by decide) c34
            refine lv_iconst (v := 1) hx hb dX10_isRoom_44 (by decide) ?_
            refine lv_goto (tgt := 49) hx hb dX10_isRoom_45 (by decide) ?_
            exact hret _ _ _ _ (1 : Int32) _ dX10_isRoom_49 rfl ⟨hI, (Un.tr (Un.tr Un.rf hUu18 rfl rfl rfl) hUu30 rfl rfl rfl), ⟨by have q6 := (show (gi u30 6).toInt = ((gi u 6)).toInt from (congrArg Int32.toInt (show gi u30 6 = (gi u 6) from ((hUu30.1 6 rfl).trans ((hUu18.1 6 rfl).trans rfl)))).trans rfl); have q7 := (show (gi u30 7).toInt = ((gi u30 7)).toInt from (congrArg Int32.toInt (show gi u30 7 = (gi u30 7) from rfl)).trans rfl); have q8 := (show (gi u30 8).toInt = ((gi u30 8)).toInt from (congrArg Int32.toInt (show gi u30 8 = (gi u30 8) from rfl)).trans rfl); have q9 := (show (gi u30 9).toInt = ((gi u30 9)).toInt from (congrArg Int32.toInt (show gi u30 9 = (gi u30 9) from rfl)).trans rfl); have q12 := (show (gi u30 12).toInt = ((gi u18 12)).toInt from (congrArg Int32.toInt (show gi u30 12 = (gi u18 12) from ((hUu30.1 12 rfl).trans rfl))).trans rfl); omega, by have q6 := (show (gi u30 6).toInt = ((gi u 6)).toInt from (congrArg Int32.toInt (show gi u30 6 = (gi u 6) from ((hUu30.1 6 rfl).trans ((hUu18.1 6 rfl).trans rfl)))).trans rfl); have q7 := (show (gi u30 7).toInt = ((gi u30 7)).toInt from (congrArg Int32.toInt (show gi u30 7 = (gi u30 7) from rfl)).trans rfl); have q8 := (show (gi u30 8).toInt = ((gi u30 8)).toInt from (congrArg Int32.toInt (show gi u30 8 = (gi u30 8) from rfl)).trans rfl); have q9 := (show (gi u30 9).toInt = ((gi u30 9)).toInt from (congrArg Int32.toInt (show gi u30 9 = (gi u30 9) from rfl)).trans rfl); have q12 := (show (gi u30 12).toInt = ((gi u18 12)).toInt from (congrArg Int32.toInt (show gi u30 12 = (gi u18 12) from ((hUu30.1 12 rfl).trans rfl))).trans rfl); omega, (Or.inl ⟨rfl, by have q7 : (ga u30 7 28).toInt ≤ 5 := (hI.has 28).2; have q6 := (show (ga u30 7 28).toInt = ((ga u 7 28)).toInt from (congrArg Int32.toInt (show ga u30 7 28 = (ga u 7 28) from ((congrFun (hUu30.2.1 7 rfl) _).trans ((congrFun (hUu18.2.1 7 rfl) _).trans rfl)))).trans rfl); have q6 := (show (gi u30 6).toInt = ((gi u 6)).toInt from (congrArg Int32.toInt (show gi u30 6 = (gi u 6) from ((hUu30.1 6 rfl).trans ((hUu18.1 6 rfl).trans rfl)))).trans rfl); have q7 := (show (gi u30 7).toInt = ((gi u30 7)).toInt from (congrArg Int32.toInt (show gi u30 7 = (gi u30 7) from rfl)).trans rfl); have q8 := (show (gi u30 8).toInt = ((gi u30 8)).toInt from (congrArg Int32.toInt (show gi u30 8 = (gi u30 8) from rfl)).trans rfl); have q9 := (show (gi u30 9).toInt = ((gi u30 9)).toInt from (congrArg Int32.toInt (show gi u30 9 = (gi u30 9) from rfl)).trans rfl); have q12 := (show (gi u30 12).toInt = ((gi u18 12)).toInt from (congrArg Int32.toInt (show gi u30 12 = (gi u18 12) from ((hUu30.1 12 rfl).trans rfl))).trans rfl); omega⟩)⟩⟩ hH
set_option maxHeartbeats 4000000 in
set_option maxRecDepth 100000 in
theorem kX10_number_3 (l : Launch) (D : va_G) (C : Nat → ClassId) (A : Nat → Nat) (u : St) (hI : IM u) (hPI : (gi u 9).toInt ≤ (gi u 7).toInt ∧ (gi u 7).toInt ≤ (gi u 6).toInt ∧ ((gi u 8).toInt = 0 ∨ (gi u 9).toInt < (gi u 7).toInt)) (sz : Nat) : MetI l yX10_number cX10_number 4 (some .int) 3 [.ref (A 0), .int 0, .int 99] D (tyl C) (mw C A) X0 u sz (fun r u' => IM u' ∧ Un [(7, 7), (8, 8), (9, 9), (10, 10), (12, 12), (13, 13)] [] [] u u' ∧ (((gi u' 9).toInt ≤ (gi u' 7).toInt ∧ (gi u' 7).toInt ≤ (gi u 6).toInt ∧ ((gi u' 8).toInt = 0 ∨ (gi u' 9).toInt < (gi u' 7).toInt)) ∧ (gi u 9).toInt ≤ (gi u' 9).toInt ∧ (0 ≤ r.toInt ∧ r.toInt ≤ 99))) := by
  refine mI (by decide) (Nat.le_of_ble_eq_true rfl) ?_
  intro p e s m below meth c ls ar Q hx hb hml hown hts hK hH hX hl hret
  have hown : s.vm.findClass RX10 = some m.cls := hown
  have hl : lv_has ls 4 [(0, .ref (A 0)), (1, .int 0), (2, .int 99)] := hl
  refine lv_aload_n hx hb dX10_number_0 rfl (lv_at hl 0 rfl) ?_
  refine va_get (ci := 10) (v := .int (gi u 12)) (C := RX10) (T := TX10) (N := 42) hx hb hts (fun w h => uc_in w (inX10 w h)) hown hK hH.1 0 (mwc0 C A u) rfl 12 (by decide) (hts _ (uc_in _ q_f1200)) (fun _ h9 => h9) rfl dX10_number_1 ?_
  refine lv_if_eq (tgt := 9) hx hb dX10_number_4 (by decide) (fun c1 => ?_) (fun c1 => ?_)
  · have c1 := cEQ (x := (gi u 12)) (y := 0) (X := ((gi u 12)).toInt) (Y := 0) rfl (by decide) c1
    refine lv_aload_n hx hb dX10_number_9 rfl (lv_at hl 0 rfl) ?_
    refine va_get (ci := 10) (v := .int (gi u 8)) (C := RX10) (T := TX10) (N := 42) hx hb hts (fun w h => uc_in w (inX10 w h)) hown hK hH.1 0 (mwc0 C A u) rfl 8 (by decide) (hts _ (uc_in _ q_f1196)) (fun _ h9 => h9) rfl dX10_number_10 ?_
    refine lv_iconst (v := 2) hx hb dX10_number_13 (by decide) ?_
    refine lv_icmp_eq (tgt := 24) hx hb dX10_number_14 (by decide) (fun c2 => ?_) (fun c2 => ?_)
    · have c2 := cEQ (x := (gi u 8)) (y := 2) (X := ((gi u 8)).toInt) (Y := 2) rfl (by decide) c2
      refine lv_aload_n hx hb dX10_number_24 rfl (lv_at hl 0 rfl) ?_
      refine va_get (ci := 10) (v := .int (gi u 10)) (C := RX10) (T := TX10) (N := 42) hx hb hts (fun w h => uc_in w (inX10 w h)) hown hK hH.1 0 (mwc0 C A u) rfl 10 (by decide) (hts _ (uc_in _ q_f1198)) (fun _ h9 => h9) rfl dX10_number_25 ?_
      refine lv_i2l (v := (gi u 10).toInt64) hx hb dX10_number_28 rfl ?_
      refine lv_iload_n hx hb dX10_number_29 rfl (lv_at hl 1 rfl) ?_
      refine lv_i2l (v := 0) hx hb dX10_number_30 (by decide) ?_
      refine lv_iload_n hx hb dX10_number_31 rfl (lv_at hl 2 rfl) ?_
      refine lv_i2l (v := 99) hx hb dX10_number_32 (by decide) ?_
      refine csS (n := 3) (As := [.long ((gi u 10).toInt64), .long 0, .long 99]) (rest := []) ⟨hx, hb, hml, hown, hts⟩ uc_in (kX10_in_0 l D C A u hI ((gi u 10).toInt64) (((gi u 10)).toInt) (tt_i2l rfl) (0) 0 (by decide) (99) 99 (by decide)) q_m1324 q_s1325 q_i11 q_c1326 hvX10_in ⟨(Nat.le_of_ble_eq_true rfl), (Nat.le_of_ble_eq_true rfl)⟩ ⟨(Nat.le_of_ble_eq_true rfl), (Nat.le_of_ble_eq_true rfl)⟩ hK hH.1 rfl hl.1 rfl (Nat.le_of_ble_eq_true rfl) dX10_number_33 (fun r3 p4 => ?_)
      rcases p4 with ⟨e9, f5, f6⟩ | ⟨e9, fn7⟩
      · subst e9
        refine lv_if_ne (tgt := 46) hx hb dX10_number_36 (by decide) (fun c8 => ?_) (fun c8 => absurd c8 (by decide))
        refine lv_aload_n hx hb dX10_number_46 rfl (lv_at hl 0 rfl) ?_
        refine va_get (ci := 10) (v := .int (gi u 10)) (C := RX10) (T := TX10) (N := 42) hx hb hts (fun w h => uc_in w (inX10 w h)) hown hK hH.1 0 (mwc0 C A u) rfl 10 (by decide) (hts _ (uc_in _ q_f1198)) (fun _ h9 => h9) rfl dX10_number_47 ?_
        refine lv_istore_n (lv' := [(3, .int (gi u 10)), (0, .ref (A 0)), (1, .int 0), (2, .int 99)]) hx hb dX10_number_50 rfl hl (by decide) rfl (fun ls hl => ?_)
        refine lv_aload_n hx hb dX10_number_51 rfl (lv_at hl 1 rfl) ?_
        refine cvU (n := 0) (As := []) (rest := []) ⟨hx, hb, hml, hown, hts⟩ uc_in (kX10_next_0 l D C A u hI (by have q5 := hI.b6; omega) _) q_m1370 q_n1372 q_p55 q_i11 q_c1373 hvX10_next ⟨(Nat.le_of_ble_eq_true rfl), (Nat.le_of_ble_eq_true rfl)⟩ ⟨(Nat.le_of_ble_eq_true rfl), (Nat.le_of_ble_eq_true rfl)⟩ hK hH (fun q h => Or.inr h) Bl0 (fun _ _ _ => trivial) 10 0 rfl (mwc0 C A u) rfl hl.1 rfl (Nat.le_of_ble_eq_true rfl) dX10_number_52 (fun u9 H locs p11 hH => ?_)
        obtain ⟨hI, hUu9, p11⟩ := p11
        refine lv_iload_n hx hb dX10_number_55 rfl (lv_at hl 0 rfl) ?_
        exact hret _ _ _ _ (gi u 10) _ dX10_number_56 rfl ⟨hI, (Un.tr Un.rf hUu9 rfl rfl rfl), ⟨by have q6 := (show (gi u9 6).toInt = ((gi u 6)).toInt from (congrArg Int32.toInt (show gi u9 6 = (gi u 6) from ((hUu9.1 6 rfl).trans rfl))).trans rfl); have q7 := (show (gi u9 7).toInt = ((gi u9 7)).toInt from (congrArg Int32.toInt (show gi u9 7 = (gi u9 7) from rfl)).trans rfl); have q8 := (show (gi u9 8).toInt = ((gi u9 8)).toInt from (congrArg Int32.toInt (show gi u9 8 = (gi u9 8) from rfl)).trans rfl); have q9 := (show (gi u9 9).toInt = ((gi u9 9)).toInt from (congrArg Int32.toInt (show gi u9 9 = (gi u9 9) from rfl)).trans rfl); have q12 := (show (gi u9 12).toInt = ((gi u 12)).toInt from (congrArg Int32.toInt (show gi u9 12 = (gi u 12) from ((hUu9.1 12 rfl).trans rfl))).trans rfl); omega, by have q6 := (show (gi u9 6).toInt = ((gi u 6)).toInt from (congrArg Int32.toInt (show gi u9 6 = (gi u 6) from ((hUu9.1 6 rfl).trans rfl))).trans rfl); have q7 := (show (gi u9 7).toInt = ((gi u9 7)).toInt from (congrArg Int32.toInt (show gi u9 7 = (gi u9 7) from rfl)).trans rfl); have q8 := (show (gi u9 8).toInt = ((gi u9 8)).toInt from (congrArg Int32.toInt (show gi u9 8 = (gi u9 8) from rfl)).trans rfl); have q9 := (show (gi u9 9).toInt = ((gi u9 9)).toInt from (congrArg Int32.toInt (show gi u9 9 = (gi u9 9) from rfl)).trans rfl); have q12 := (show (gi u9 12).toInt = ((gi u 12)).toInt from (congrArg Int32.toInt (show gi u9 12 = (gi u 12) from ((hUu9.1 12 rfl).trans rfl))).trans rfl); omega, ⟨by have q9 := (show (gi u 10).toInt = ((gi u 10)).toInt from rfl); omega, by have q9 := (show (gi u 10).toInt = ((gi u 10)).toInt from rfl); omega⟩⟩⟩ hH
      · subst e9
        refine lv_if_ne (tgt := 46) hx hb dX10_number_36 (by decide) (fun c12 => absurd c12 (by decide)) (fun c12 => ?_)
        refine lv_aload_n hx hb dX10_number_39 rfl (lv_at hl 0 rfl) ?_
        refine lv_iconst (v := 2) hx hb dX10_number_40 (by decide) ?_
        refine cvU (n := 1) (As := [.int 2]) (rest := []) ⟨hx, hb, hml, hown, hts⟩ uc_in (kX10_fails_2 l D C A u hI  _) q_m1400 q_n1402 q_p61 q_i11 q_c1403 hvX10_fails ⟨(Nat.le_of_ble_eq_true rfl), (Nat.le_of_ble_eq_true rfl)⟩ ⟨(Nat.le_of_ble_eq_true rfl), (Nat.le_of_ble_eq_true rfl)⟩ hK hH (fun q h => Or.inr h) Bl0 (fun _ _ _ => trivial) 10 0 rfl (mwc0 C A u) rfl hl.1 rfl (Nat.le_of_ble_eq_true rfl) dX10_number_41 (fun u13 H locs p15 hH => ?_)
        obtain ⟨hI, hUu13, p15⟩ := p15
        refine lv_iload_n hx hb dX10_number_44 rfl (lv_at hl 1 rfl) ?_
        exact hret _ _ _ _ (0 : Int32) _ dX10_number_45 rfl ⟨hI, (Un.tr Un.rf hUu13 rfl rfl rfl), ⟨by have q6 := (show (gi u13 6).toInt = ((gi u 6)).toInt from (congrArg Int32.toInt (show gi u13 6 = (gi u 6) from ((hUu13.1 6 rfl).trans rfl))).trans rfl); have q7 := (show (gi u13 7).toInt = ((gi u 7)).toInt from (congrArg Int32.toInt (show gi u13 7 = (gi u 7) from ((hUu13.1 7 rfl).trans rfl))).trans rfl); have q8 := (show (gi u13 8).toInt = ((gi u 8)).toInt from (congrArg Int32.toInt (show gi u13 8 = (gi u 8) from ((hUu13.1 8 rfl).trans rfl))).trans rfl); have q9 := (show (gi u13 9).toInt = ((gi u 9)).toInt from (congrArg Int32.toInt (show gi u13 9 = (gi u 9) from ((hUu13.1 9 rfl).trans rfl))).trans rfl); have q12 := (show (gi u13 12).toInt = ((gi u13 12)).toInt from (congrArg Int32.toInt (show gi u13 12 = (gi u13 12) from rfl)).trans rfl); omega, by have q6 := (show (gi u13 6).toInt = ((gi u 6)).toInt from (congrArg Int32.toInt (show gi u13 6 = (gi u 6) from ((hUu13.1 6 rfl).trans rfl))).trans rfl); have q7 := (show (gi u13 7).toInt = ((gi u 7)).toInt from (congrArg Int32.toInt (show gi u13 7 = (gi u 7) from ((hUu13.1 7 rfl).trans rfl))).trans rfl); have q8 := (show (gi u13 8).toInt = ((gi u 8)).toInt from (congrArg Int32.toInt (show gi u13 8 = (gi u 8) from ((hUu13.1 8 rfl).trans rfl))).trans rfl); have q9 := (show (gi u13 9).toInt = ((gi u 9)).toInt from (congrArg Int32.toInt (show gi u13 9 = (gi u 9) from ((hUu13.1 9 rfl).trans rfl))).trans rfl); have q12 := (show (gi u13 12).toInt = ((gi u13 12)).toInt from (congrArg Int32.toInt (show gi u13 12 = (gi u13 12) from rfl)).trans rfl); omega, ⟨by decide, by decide⟩⟩⟩ hH
    · refine lv_aload_n hx hb dX10_number_17 rfl (lv_at hl 0 rfl) ?_
      refine lv_iconst (v := 1) hx hb dX10_number_18 (by decide) ?_
      refine cvU (n := 1) (As := [.int 1]) (rest := []) ⟨hx, hb, hml, hown, hts⟩ uc_in (kX10_fails_1 l D C A u hI  _) q_m1400 q_n1402 q_p61 q_i11 q_c1403 hvX10_fails ⟨(Nat.le_of_ble_eq_true rfl), (Nat.le_of_ble_eq_true rfl)⟩ ⟨(Nat.le_of_ble_eq_true rfl), (Nat.le_of_ble_eq_true rfl)⟩ hK hH (fun q h => Or.inr h) Bl0 (fun _ _ _ => trivial) 10 0 rfl (mwc0 C A u) rfl hl.1 rfl (Nat.le_of_ble_eq_true rfl) dX10_number_19 (fun u16 H locs p18 hH => ?_)
      obtain ⟨hI, hUu16, p18⟩ := p18
      refine lv_iload_n hx hb dX10_number_22 rfl (lv_at hl 1 rfl) ?_
      exact hret _ _ _ _ (0 : Int32) _ dX10_number_23 rfl ⟨hI, (Un.tr Un.rf hUu16 rfl rfl rfl), ⟨by have q6 := (show (gi u16 6).toInt = ((gi u 6)).toInt from (congrArg Int32.toInt (show gi u16 6 = (gi u 6) from ((hUu16.1 6 rfl).trans rfl))).trans rfl); have q7 := (show (gi u16 7).toInt = ((gi u 7)).toInt from (congrArg Int32.toInt (show gi u16 7 = (gi u 7) from ((hUu16.1 7 rfl).trans rfl))).trans rfl); have q8 := (show (gi u16 8).toInt = ((gi u 8)).toInt from (congrArg Int32.toInt (show gi u16 8 = (gi u 8) from ((hUu16.1 8 rfl).trans rfl))).trans rfl); have q9 := (show (gi u16 9).toInt = ((gi u 9)).toInt from (congrArg Int32.toInt (show gi u16 9 = (gi u 9) from ((hUu16.1 9 rfl).trans rfl))).trans rfl); have q12 := (show (gi u16 12).toInt = ((gi u16 12)).toInt from (congrArg Int32.toInt (show gi u16 12 = (gi u16 12) from rfl)).trans rfl); omega, by have q6 := (show (gi u16 6).toInt = ((gi u 6)).toInt from (congrArg Int32.toInt (show gi u16 6 = (gi u 6) from ((hUu16.1 6 rfl).trans rfl))).trans rfl); have q7 := (show (gi u16 7).toInt = ((gi u 7)).toInt from (congrArg Int32.toInt (show gi u16 7 = (gi u 7) from ((hUu16.1 7 rfl).trans rfl))).trans rfl); have q8 := (show (gi u16 8).toInt = ((gi u 8)).toInt from (congrArg Int32.toInt (show gi u16 8 = (gi u 8) from ((hUu16.1 8 rfl).trans rfl))).trans rfl); have q9 := (show (gi u16 9).toInt = ((gi u 9)).toInt from (congrArg Int32.toInt (show gi u16 9 = (gi u 9) from ((hUu16.1 9 rfl).trans rfl))).trans rfl); have q12 := (show (gi u16 12).toInt = ((gi u16 12)).toInt from (congrArg Int32.toInt (show gi u16 12 = (gi u16 12) from rfl)).trans rfl); omega, ⟨by decide, by decide⟩⟩⟩ hH
  · refine lv_iload_n hx hb dX10_number_7 rfl (lv_at hl 1 rfl) ?_
    exact hret _ _ _ _ (0 : Int32) _ dX10_number_8 rfl ⟨hI, Un.rf, ⟨by have q6 := (show (gi u 6).toInt = ((gi u 6)).toInt from (congrArg Int32.toInt (show gi u 6 = (gi u 6) from rfl)).trans rfl); have q7 := (show (gi u 7).toInt = ((gi u 7)).toInt from (congrArg Int32.toInt (show gi u 7 = (gi u 7) from rfl)).trans rfl); have q8 := (show (gi u 8).toInt = ((gi u 8)).toInt from (congrArg Int32.toInt (show gi u 8 = (gi u 8) from rfl)).trans rfl); have q9 := (show (gi u 9).toInt = ((gi u 9)).toInt from (congrArg Int32.toInt (show gi u 9 = (gi u 9) from rfl)).trans rfl); have q12 := (show (gi u 12).toInt = ((gi u 12)).toInt from (congrArg Int32.toInt (show gi u 12 = (gi u 12) from rfl)).trans rfl); omega, by have q6 := (show (gi u 6).toInt = ((gi u 6)).toInt from (congrArg Int32.toInt (show gi u 6 = (gi u 6) from rfl)).trans rfl); have q7 := (show (gi u 7).toInt = ((gi u 7)).toInt from (congrArg Int32.toInt (show gi u 7 = (gi u 7) from rfl)).trans rfl); have q8 := (show (gi u 8).toInt = ((gi u 8)).toInt from (congrArg Int32.toInt (show gi u 8 = (gi u 8) from rfl)).trans rfl); have q9 := (show (gi u 9).toInt = ((gi u 9)).toInt from (congrArg Int32.toInt (show gi u 9 = (gi u 9) from rfl)).trans rfl); have q12 := (show (gi u 12).toInt = ((gi u 12)).toInt from (congrArg Int32.toInt (show gi u 12 = (gi u 12) from rfl)).trans rfl); omega, ⟨by decide, by decide⟩⟩⟩ hH
set_option maxHeartbeats 4000000 in
set_option maxRecDepth 100000 in
theorem kX10_number__2 (l : Launch) (D : va_G) (C : Nat → ClassId) (A : Nat → Nat) (u : St) (hI : IM u) (a0 : Int64) (A0 : Int) (ha0 : a0.toInt = A0) (hPI : (gi u 9).toInt ≤ (gi u 7).toInt ∧ (gi u 7).toInt ≤ (gi u 6).toInt ∧ ((gi u 8).toInt = 0 ∨ (gi u 9).toInt < (gi u 7).toInt)) (sz : Nat) : MetI l yX10_number_ cX10_number_ 5 (some .int) 5 [.ref (A 0), .long a0, .int 0, .int 99] D (tyl C) (mw C A) X0 u sz (fun r u' => IM u' ∧ Un [(7, 7), (8, 8), (9, 9), (10, 10), (12, 12), (13, 13)] [] [] u u' ∧ (((gi u' 9).toInt ≤ (gi u' 7).toInt ∧ (gi u' 7).toInt ≤ (gi u 6).toInt ∧ ((gi u' 8).toInt = 0 ∨ (gi u' 9).toInt < (gi u' 7).toInt)) ∧ (gi u 9).toInt ≤ (gi u' 9).toInt ∧ (0 ≤ r.toInt ∧ r.toInt ≤ 99))) := by
  refine mI (by decide) (Nat.le_of_ble_eq_true rfl) ?_
  intro p e s m below meth c ls ar Q hx hb hml hown hts hK hH hX hl hret
  have hown : s.vm.findClass RX10 = some m.cls := hown
  have hl : lv_has ls 5 [(0, .ref (A 0)), (1, .long a0), (3, .int 0), (4, .int 99)] := hl
  refine lv_aload_n hx hb dX10_number__0 rfl (lv_at hl 0 rfl) ?_
  refine lv_lload_n hx hb dX10_number__1 rfl (lv_at hl 1 rfl) ?_
  refine cvU (n := 1) (As := [.long a0]) (rest := []) ⟨hx, hb, hml, hown, hts⟩ uc_in (kX10_asks_0 l D C A u hI a0 A0 ha0 (by omega) _) q_m1388 q_n1390 q_p58 q_i11 q_c1391 hvX10_asks ⟨(Nat.le_of_ble_eq_true rfl), (Nat.le_of_ble_eq_true rfl)⟩ ⟨(Nat.le_of_ble_eq_true rfl), (Nat.le_of_ble_eq_true rfl)⟩ hK hH (fun q h => Or.inr h) Bl0 (fun _ _ _ => trivial) 10 0 rfl (mwc0 C A u) rfl hl.1 rfl (Nat.le_of_ble_eq_true rfl) dX10_number__2 (fun u1 H locs p3 hH => ?_)
  obtain ⟨hI, hUu1, p3⟩ := p3
  obtain ⟨f4, f5⟩ := p3
  refine lv_aload_n hx hb dX10_number__5 rfl (lv_at hl 0 rfl) ?_
  refine lv_iload_n hx hb dX10_number__6 rfl (lv_at hl 2 rfl) ?_
  refine lv_iload hx hb dX10_number__7 (lv_at hl 3 rfl) ?_
  have q7 := (show (gi u1 6).toInt = ((gi u 6)).toInt from (congrArg Int32.toInt (show gi u1 6 = (gi u 6) from ((hUu1.1 6 rfl).trans rfl))).trans rfl)
  refine cvI (n := 2) (As := [.int 0, .int 99]) (rest := []) ⟨hx, hb, hml, hown, hts⟩ uc_in (kX10_number_3 l D C A u1 hI (by omega) _) q_m1409 q_n1411 q_p63 q_i11 q_c1412 hvX10_number ⟨(Nat.le_of_ble_eq_true rfl), (Nat.le_of_ble_eq_true rfl)⟩ ⟨(Nat.le_of_ble_eq_true rfl), (Nat.le_of_ble_eq_true rfl)⟩ hK hH (fun q h => Or.inr h) Bl0 (fun _ _ _ => trivial) 10 0 rfl (mwc0 C A u1) rfl hl.1 rfl (Nat.le_of_ble_eq_true rfl) dX10_number__9 (fun r9 u8 H locs p10 hH => ?_)
  obtain ⟨hI, hUu8, p10⟩ := p10
  obtain ⟨f11, f12, f13⟩ := p10
  exact hret _ _ _ _ r9 _ dX10_number__12 rfl ⟨hI, (Un.tr (Un.tr Un.rf hUu1 rfl rfl rfl) hUu8 rfl rfl rfl), ⟨by have q6 := (show (gi u8 6).toInt = ((gi u 6)).toInt from (congrArg Int32.toInt (show gi u8 6 = (gi u 6) from ((hUu8.1 6 rfl).trans ((hUu1.1 6 rfl).trans rfl)))).trans rfl); have q7 := (show (gi u8 7).toInt = ((gi u8 7)).toInt from (congrArg Int32.toInt (show gi u8 7 = (gi u8 7) from rfl)).trans rfl); have q8 := (show (gi u8 8).toInt = ((gi u8 8)).toInt from (congrArg Int32.toInt (show gi u8 8 = (gi u8 8) from rfl)).trans rfl); have q9 := (show (gi u8 9).toInt = ((gi u8 9)).toInt from (congrArg Int32.toInt (show gi u8 9 = (gi u8 9) from rfl)).trans rfl); have q12 := (show (gi u8 12).toInt = ((gi u8 12)).toInt from (congrArg Int32.toInt (show gi u8 12 = (gi u8 12) from rfl)).trans rfl); omega, by have q6 := (show (gi u8 6).toInt = ((gi u 6)).toInt from (congrArg Int32.toInt (show gi u8 6 = (gi u 6) from ((hUu8.1 6 rfl).trans ((hUu1.1 6 rfl).trans rfl)))).trans rfl); have q7 := (show (gi u8 7).toInt = ((gi u8 7)).toInt from (congrArg Int32.toInt (show gi u8 7 = (gi u8 7) from rfl)).trans rfl); have q8 := (show (gi u8 8).toInt = ((gi u8 8)).toInt from (congrArg Int32.toInt (show gi u8 8 = (gi u8 8) from rfl)).trans rfl); have q9 := (show (gi u8 9).toInt = ((gi u8 9)).toInt from (congrArg Int32.toInt (show gi u8 9 = (gi u8 9) from rfl)).trans rfl); have q12 := (show (gi u8 12).toInt = ((gi u8 12)).toInt from (congrArg Int32.toInt (show gi u8 12 = (gi u8 12) from rfl)).trans rfl); omega, ⟨by have q9 := (show r9.toInt = r9.toInt from rfl); omega, by have q9 := (show r9.toInt = r9.toInt from rfl); omega⟩⟩⟩ hH
