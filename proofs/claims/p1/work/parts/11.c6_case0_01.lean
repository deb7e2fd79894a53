set_option maxHeartbeats 4000000 in
set_option maxRecDepth 100000 in
theorem kX10_feed_0 (l : Launch) (D : va_G) (cB cI cJ cZ cT cR : ClassId) (a0 a1 a2 a3 a4 a5 a6 a7 a8 a9 a10 a11 a12 a13 a14 a15 a16 a17 a18 : Nat) (x0 : Int32) (x1 : Int32) (x2 : Int32) (x3 : Int32) (x4 : Int32) (sz : Nat) : Met l yX10_feed (uc yX10_feed cX10_feed 6 (some .int)) (rmL 2 0 0) (va_Pc [.ref a0, .int x0, .int x1, .int x2, .int x3, .int x4] (MPre D [(cB, .byte), (cI, .int), (cJ, .long), (cZ, .boolean), (cT, .object RX7), (cR, .object RX3)] [(a0, .inr (10, [.int 0, .ref a2, .ref a3, .ref a4, .ref a5, .ref a1, .int 0, .int 0, .int 0, .int 0, .int 0, .long 0, .int 0, .int 0, .int 0, .int (-1), .ref a6, .ref a7, .ref a8, .ref a9, .ref a10, .ref a11, .ref a12, .ref a13, .int 0, .int 0, .ref a14, .ref a15, .int 0, .int 0, .int 0, .ref a16, .ref a17, .int 0, .int 0, .int 0, .int 0, .int 0, .ref a18, .int 0, .int 0, .int 0])), (a1, .inl (cB, 800, .inl (fun _ => 0)))] sz)) (va_Qi (fun (r : Int32) (_ : (Nat → Int32)) => r = 20) (MB D [(cB, .byte), (cI, .int), (cJ, .long), (cZ, .boolean), (cT, .object RX7), (cR, .object RX3)] [(a0, .inr (10, [.int 0, .ref a2, .ref a3, .ref a4, .ref a5, .ref a1, .int 0, .int 0, .int 0, .int 0, .int 0, .long 0, .int 0, .int 0, .int 0, .int (-1), .ref a6, .ref a7, .ref a8, .ref a9, .ref a10, .ref a11, .ref a12, .ref a13, .int 0, .int 0, .ref a14, .ref a15, .int 0, .int 0, .int 0, .ref a16, .ref a17, .int 0, .int 0, .int 0, .int 0, .int 0, .ref a18, .int 0, .int 0, .int 0])), (a1, .inl (cB, 800, .inl (fun _ => 0)))] sz (fun (u : (Nat → Int32)) => [(a0, .inr (10, [.int 0, .ref a2, .ref a3, .ref a4, .ref a5, .ref a1, .int 20, .int 0, .int 0, .int 0, .int 0, .long 0, .int 0, .int 0, .int 0, .int (-1), .ref a6, .ref a7, .ref a8, .ref a9, .ref a10, .ref a11, .ref a12, .ref a13, .int 0, .int 0, .ref a14, .ref a15, .int 0, .int 0, .int 0, .ref a16, .ref a17, .int 0, .int 0, .int 0, .int 0, .int 0, .ref a18, .int 0, .int 0, .int 0])), (a1, .inl (cB, 800, .inl u))])) (va_A [(a0, .inr (10, [.int 0, .ref a2, .ref a3, .ref a4, .ref a5, .ref a1, .int 0, .int 0, .int 0, .int 0, .int 0, .long 0, .int 0, .int 0, .int 0, .int (-1), .ref a6, .ref a7, .ref a8, .ref a9, .ref a10, .ref a11, .ref a12, .ref a13, .int 0, .int 0, .ref a14, .ref a15, .int 0, .int 0, .int 0, .ref a16, .ref a17, .int 0, .int 0, .int 0, .int 0, .int 0, .ref a18, .int 0, .int 0, .int 0])), (a1, .inl (cB, 800, .inl (fun _ => 0)))] sz)) 0 0 (va_A [(a0, .inr (10, [.int 0, .ref a2, .ref a3, .ref a4, .ref a5, .ref a1, .int 0, .int 0, .int 0, .int 0, .int 0, .long 0, .int 0, .int 0, .int 0, .int (-1), .ref a6, .ref a7, .ref a8, .ref a9, .ref a10, .ref a11, .ref a12, .ref a13, .int 0, .int 0, .ref a14, .ref a15, .int 0, .int 0, .int 0, .ref a16, .ref a17, .int 0, .int 0, .int 0, .int 0, .int 0, .ref a18, .int 0, .int 0, .int 0])), (a1, .inl (cB, 800, .inl (fun _ => 0)))] sz) := by
  refine pm (by decide) (Nat.le_of_ble_eq_true rfl) ?_
  intro p e s m below meth c ls hx hb hr hml hown hlk hnm hts hv hl
  have hown : s.vm.findClass RX10 = some m.cls := hown
  have hl : lv_has ls 6 [(0, .ref a0), (1, .int x0), (2, .int x1), (3, .int x2), (4, .int x3), (5, .int x4)] := hl
  obtain ⟨hsz, hP, hK, hD0, hE⟩ := hv
  subst hsz
  have hD := hD0.self (sz := s.heap.size)
  obtain ⟨AA, hAe⟩ : ∃ AA, AA = va_A [(a0, .inr (10, [.int 0, .ref a2, .ref a3, .ref a4, .ref a5, .ref a1, .int 0, .int 0, .int 0, .int 0, .int 0, .long 0, .int 0, .int 0, .int 0, .int (-1), .ref a6, .ref a7, .ref a8, .ref a9, .ref a10, .ref a11, .ref a12, .ref a13, .int 0, .int 0, .ref a14, .ref a15, .int 0, .int 0, .int 0, .ref a16, .ref a17, .int 0, .int 0, .int 0, .int 0, .int 0, .ref a18, .int 0, .int 0, .int 0])), (a1, .inl (cB, 800, .inl (fun _ => 0)))] s.heap.size := ⟨_, rfl⟩
  rw [← hAe] at hD
  have hA : ∀ q : Nat, s.heap.size ≤ q → AA q := fun q h => by rw [hAe]; exact Or.inr h
  have hS : va_S AA s.heap s.heap [] := va_S.rf
  obtain ⟨-, hAOT, hAOR, hAOI⟩ := id hE
  refine lv_aload_n hx hb dX10_feed_0 rfl (lv_at hl 0 rfl) ?_
  refine lv_iconst (v := 0) hx hb dX10_feed_1 (by decide) ?_
  refine va_put (D := D) (ci := 10) (v := .int 0) (ty := .int) (C := RX10) (T := TX10) (N := 42) hx hb hts (fun w h => uc_in w (inX10 w h)) tyX10 tyX10_ok nmX10 hown hK hP hD hS 0 rfl rfl 0 (by decide) (hts _ (uc_in _ q_f1188)) (fun _ h9 => h9) rfl (by decide +kernel) rfl rfl (Nat.le_of_ble_eq_true rfl) dX10_feed_2 (fun H locs hP hD hS => ?_)
  have hP : va_P D vwCl [(a0, .inr (10, [.int 0, .ref a2, .ref a3, .ref a4, .ref a5, .ref a1, .int 0, .int 0, .int 0, .int 0, .int 0, .long 0, .int 0, .int 0, .int 0, .int (-1), .ref a6, .ref a7, .ref a8, .ref a9, .ref a10, .ref a11, .ref a12, .ref a13, .int 0, .int 0, .ref a14, .ref a15, .int 0, .int 0, .int 0, .ref a16, .ref a17, .int 0, .int 0, .int 0, .int 0, .int 0, .ref a18, .int 0, .int 0, .int 0])), (a1, .inl (cB, 800, .inl (fun _ => 0)))] H := hP
  have hD : va_D AA [(a0, .inr (10, [.int 0, .ref a2, .ref a3, .ref a4, .ref a5, .ref a1, .int 0, .int 0, .int 0, .int 0, .int 0, .long 0, .int 0, .int 0, .int 0, .int (-1), .ref a6, .ref a7, .ref a8, .ref a9, .ref a10, .ref a11, .ref a12, .ref a13, .int 0, .int 0, .ref a14, .ref a15, .int 0, .int 0, .int 0, .ref a16, .ref a17, .int 0, .int 0, .int 0, .int 0, .int 0, .ref a18, .int 0, .int 0, .int 0])), (a1, .inl (cB, 800, .inl (fun _ => 0)))] := hD
  refine lv_aload_n hx hb dX10_feed_5 rfl (lv_at hl 0 rfl) ?_
  refine va_get (D := D) (ci := 10) (v := .int 0) (C := RX10) (T := TX10) (N := 42) hx hb hts (fun w h => uc_in w (inX10 w h)) hown hK hP 0 rfl rfl 6 (by decide) (hts _ (uc_in _ q_f1194)) (fun _ h9 => h9) rfl dX10_feed_6 ?_
  refine lv_bipush (v := 20) hx hb dX10_feed_9 (by decide) ?_
  refine lv_iadd hx hb dX10_feed_11 ?_
  refine pv_i (v := 20) (by decide) ?_
  refine lv_sipush (v := 800) hx hb dX10_feed_12 (by decide) ?_
  refine lv_icmp_le (tgt := 20) hx hb dX10_feed_15 (by decide) (fun _ => ?_) (fun c9 => absurd (by decide) c9)
  refine lv_aload_n hx hb dX10_feed_20 rfl (lv_at hl 0 rfl) ?_
  refine lv_iload_n hx hb dX10_feed_21 rfl (lv_at hl 1 rfl) ?_
  refine cvV (n := 1) (As := [.int x0]) (rest := []) (wr := []) ⟨hx, hb, hml, hown, hts⟩ uc_in (kX10_four_0 l D cB cI cJ cZ cT cR a0 a1 a2 a3 a4 a5 a6 a7 a8 a9 a10 a11 a12 a13 a14 a15 a16 a17 a18 x0 H.size) q_m1342 q_n1344 q_p51 q_i11 q_c1345 (by decide +kernel) ⟨(Nat.le_of_ble_eq_true rfl), (Nat.le_of_ble_eq_true rfl)⟩ ⟨(Nat.le_of_ble_eq_true rfl), (Nat.le_of_ble_eq_true rfl)⟩ hE hK hP hD hS hA [0, 1] [] rfl rfl rfl rfl (by decide) 10 0 rfl rfl rfl hl.1 rfl (Nat.le_of_ble_eq_true rfl) dX10_feed_22 (fun f1 H locs hpo hP hD hS => ?_)
  have hP : va_P D vwCl [(a0, .inr (10, [.int 0, .ref a2, .ref a3, .ref a4, .ref a5, .ref a1, .int 4, .int 0, .int 0, .int 0, .int 0, .long 0, .int 0, .int 0, .int 0, .int (-1), .ref a6, .ref a7, .ref a8, .ref a9, .ref a10, .ref a11, .ref a12, .ref a13, .int 0, .int 0, .ref a14, .ref a15, .int 0, .int 0, .int 0, .ref a16, .ref a17, .int 0, .int 0, .int 0, .int 0, .int 0, .ref a18, .int 0, .int 0, .int 0])), (a1, .inl (cB, 800, .inl f1))] H := hP
  have hD : va_D AA [(a0, .inr (10, [.int 0, .ref a2, .ref a3, .ref a4, .ref a5, .ref a1, .int 4, .int 0, .int 0, .int 0, .int 0, .long 0, .int 0, .int 0, .int 0, .int (-1), .ref a6, .ref a7, .ref a8, .ref a9, .ref a10, .ref a11, .ref a12, .ref a13, .int 0, .int 0, .ref a14, .ref a15, .int 0, .int 0, .int 0, .ref a16, .ref a17, .int 0, .int 0, .int 0, .int 0, .int 0, .ref a18, .int 0, .int 0, .int 0])), (a1, .inl (cB, 800, .inl f1))] := hD
  refine W.cs (cells' := 0) (slots' := 0) rfl rfl ?_
  refine lv_aload_n hx hb dX10_feed_25 rfl (lv_at hl 0 rfl) ?_
  refine lv_iload_n hx hb dX10_feed_26 rfl (lv_at hl 2 rfl) ?_
  refine cvV (n := 1) (As := [.int x1]) (rest := []) (wr := []) ⟨hx, hb, hml, hown, hts⟩ uc_in (kX10_four_1 l D cB cI cJ cZ cT cR a0 a1 a2 a3 a4 a5 a6 a7 a8 a9 a10 a11 a12 a13 a14 a15 a16 a17 a18 x1 f1 H.size) q_m1342 q_n1344 q_p51 q_i11 q_c1345 (by decide +kernel) ⟨(Nat.le_of_ble_eq_true rfl), (Nat.le_of_ble_eq_true rfl)⟩ ⟨(Nat.le_of_ble_eq_true rfl), (Nat.le_of_ble_eq_true rfl)⟩ hE hK hP hD hS hA [0, 1] [] rfl rfl rfl rfl (by decide) 10 0 rfl rfl rfl hl.1 rfl (Nat.le_of_ble_eq_true rfl) dX10_feed_27 (fun f2 H locs hpo hP hD hS => ?_)
  have hP : va_P D vwCl [(a0, .inr (10, [.int 0, .ref a2, .ref a3, .ref a4, .ref a5, .ref a1, .int 8, .int 0, .int 0, .int 0, .int 0, .long 0, .int 0, .int 0, .int 0, .int (-1), .ref a6, .ref a7, .ref a8, .ref a9, .ref a10, .ref a11, .ref a12, .ref a13, .int 0, .int 0, .ref a14, .ref a15, .int 0, .int 0, .int 0, .ref a16, .ref a17, .int 0, .int 0, .int 0, .int 0, .int 0, .ref a18, .int 0, .int 0, .int 0])), (a1, .inl (cB, 800, .inl f2))] H := hP
  have hD : va_D AA [(a0, .inr (10, [.int 0, .ref a2, .ref a3, .ref a4, .ref a5, .ref a1, .int 8, .int 0, .int 0, .int 0, .int 0, .long 0, .int 0, .int 0, .int 0, .int (-1), .ref a6, .ref a7, .ref a8, .ref a9, .ref a10, .ref a11, .ref a12, .ref a13, .int 0, .int 0, .ref a14, .ref a15, .int 0, .int 0, .int 0, .ref a16, .ref a17, .int 0, .int 0, .int 0, .int 0, .int 0, .ref a18, .int 0, .int 0, .int 0])), (a1, .inl (cB, 800, .inl f2))] := hD
  refine W.cs (cells' := 0) (slots' := 0) rfl rfl ?_
  refine lv_aload_n hx hb dX10_feed_30 rfl (lv_at hl 0 rfl) ?_
  refine lv_iload_n hx hb dX10_feed_31 rfl (lv_at hl 3 rfl) ?_
  refine cvV (n := 1) (As := [.int x2]) (rest := []) (wr := []) ⟨hx, hb, hml, hown, hts⟩ uc_in (kX10_four_2 l D cB cI cJ cZ cT cR a0 a1 a2 a3 a4 a5 a6 a7 a8 a9 a10 a11 a12 a13 a14 a15 a16 a17 a18 x2 f2 H.size) q_m1342 q_n1344 q_p51 q_i11 q_c1345 (by decide +kernel) ⟨(Nat.le_of_ble_eq_true rfl), (Nat.le_of_ble_eq_true rfl)⟩ ⟨(Nat.le_of_ble_eq_true rfl), (Nat.le_of_ble_eq_true rfl)⟩ hE hK hP hD hS hA [0, 1] [] rfl rfl rfl rfl (by decide) 10 0 rfl rfl rfl hl.1 rfl (Nat.le_of_ble_eq_true rfl) dX10_feed_32 (fun f3 H locs hpo hP hD hS => ?_)
  have hP : va_P D vwCl [(a0, .inr (10, [.int 0, .ref a2, .ref a3, .ref a4, .ref a5, .ref a1, .int 12, .int 0, .int 0, .int 0, .int 0, .long 0, .int 0, .int 0, .int 0, .int (-1), .ref a6, .ref a7, .ref a8, .ref a9, .ref a10, .ref a11, .ref a12, .ref a13, .int 0, .int 0, .ref a14, .ref a15, .int 0, .int 0, .int 0, .ref a16, .ref a17, .int 0, .int 0, .int 0, .int 0, .int 0, .ref a18, .int 0, .int 0, .int 0])), (a1, .inl (cB, 800, .inl f3))] H := hP
  have hD : va_D AA [(a0, .inr (10, [.int 0, .ref a2, .ref a3, .ref a4, .ref a5, .ref a1, .int 12, .int 0, .int 0, .int 0, .int 0, .long 0, .int 0, .int 0, .int 0, .int (-1), .ref a6, .ref a7, .ref a8, .ref a9, .ref a10, .ref a11, .ref a12, .ref a13, .int 0, .int 0, .ref a14, .ref a15, .int 0, .int 0, .int 0, .ref a16, .ref a17, .int 0, .int 0, .int 0, .int 0, .int 0, .ref a18, .int 0, .int 0, .int 0])), (a1, .inl (cB, 800, .inl f3))] := hD
  refine W.cs (cells' := 0) (slots' := 0) rfl rfl ?_
  refine lv_aload_n hx hb dX10_feed_35 rfl (lv_at hl 0 rfl) ?_
  refine lv_iload hx hb dX10_feed_36 (lv_at hl 4 rfl) ?_
  refine cvV (n := 1) (As := [.int x3]) (rest := []) (wr := []) ⟨hx, hb, hml, hown, hts⟩ uc_in (kX10_four_3 l D cB cI cJ cZ cT cR a0 a1 a2 a3 a4 a5 a6 a7 a8 a9 a10 a11 a12 a13 a14 a15 a16 a17 a18 x3 f3 H.size) q_m1342 q_n1344 q_p51 q_i11 q_c1345 (by decide +kernel) ⟨(Nat.le_of_ble_eq_true rfl), (Nat.le_of_ble_eq_true rfl)⟩ ⟨(Nat.le_of_ble_eq_true rfl), (Nat.le_of_ble_eq_true rfl)⟩ hE hK hP hD hS hA [0, 1] [] rfl rfl rfl rfl (by decide) 10 0 rfl rfl rfl hl.1 rfl (Nat.le_of_ble_eq_true rfl) dX10_feed_38 (fun f4 H locs hpo hP hD hS => ?_)
  have hP : va_P D vwCl [(a0, .inr (10, [.int 0, .ref a2, .ref a3, .ref a4, .ref a5, .ref a1, .int 16, .int 0, .int 0, .int 0, .int 0, .long 0, .int 0, .int 0, .int 0, .int (-1), .ref a6, .ref a7, .ref a8, .ref a9, .ref a10, .ref a11, .ref a12, .ref a13, .int 0, .int 0, .ref a14, .ref a15, .int 0, .int 0, .int 0, .ref a16, .ref a17, .int 0, .int 0, .int 0, .int 0, .int 0, .ref a18, .int 0, .int 0, .int 0])), (a1, .inl (cB, 800, .inl f4))] H := hP
  have hD : va_D AA [(a0, .inr (10, [.int 0, .ref a2, .ref a3, .ref a4, .ref a5, .ref a1, .int 16, .int 0, .int 0, .int 0, .int 0, .long 0, .int 0, .int 0, .int 0, .int (-1), .ref a6, .ref a7, .ref a8, .ref a9, .ref a10, .ref a11, .ref a12, .ref a13, .int 0, .int 0, .ref a14, .ref a15, .int 0, .int 0, .int 0, .ref a16, .ref a17, .int 0, .int 0, .int 0, .int 0, .int 0, .ref a18, .int 0, .int 0, .int 0])), (a1, .inl (cB, 800, .inl f4))] := hD
  refine W.cs (cells' := 0) (slots' := 0) rfl rfl ?_
  refine lv_aload_n hx hb dX10_feed_41 rfl (lv_at hl 0 rfl) ?_
  refine lv_iload hx hb dX10_feed_42 (lv_at hl 5 rfl) ?_
  refine cvV (n := 1) (As := [.int x4]) (rest := []) (wr := []) ⟨hx, hb, hml, hown, hts⟩ uc_in (kX10_four_4 l D cB cI cJ cZ cT cR a0 a1 a2 a3 a4 a5 a6 a7 a8 a9 a10 a11 a12 a13 a14 a15 a16 a17 a18 x4 f4 H.size) q_m1342 q_n1344 q_p51 q_i11 q_c1345 (by decide +kernel) ⟨(Nat.le_of_ble_eq_true rfl), (Nat.le_of_ble_eq_true rfl)⟩ ⟨(Nat.le_of_ble_eq_true rfl), (Nat.le_of_ble_eq_true rfl)⟩ hE hK hP hD hS hA [0, 1] [] rfl rfl rfl rfl (by decide) 10 0 rfl rfl rfl hl.1 rfl (Nat.le_of_ble_eq_true rfl) dX10_feed_44 (fun f5 H locs hpo hP hD hS => ?_)
  have hP : va_P D vwCl [(a0, .inr (10, [.int 0, .ref a2, .ref a3, .ref a4, .ref a5, .ref a1, .int 20, .int 0, .int 0, .int 0, .int 0, .long 0, .int 0, .int 0, .int 0, .int (-1), .ref a6, .ref a7, .ref a8, .ref a9, .ref a10, .ref a11, .ref a12, .ref a13, .int 0, .int 0, .ref a14, .ref a15, .int 0, .int 0, .int 0, .ref a16, .ref a17, .int 0, .int 0, .int 0, .int 0, .int 0, .ref a18, .int 0, .int 0, .int 0])), (a1, .inl (cB, 800, .inl f5))] H := hP
  have hD : va_D AA [(a0, .inr (10, [.int 0, .ref a2, .ref a3, .ref a4, .ref a5, .ref a1, .int 20, .int 0, .int 0, .int 0, .int 0, .long 0, .int 0, .int 0, .int 0, .int (-1), .ref a6, .ref a7, .ref a8, .ref a9, .ref a10, .ref a11, .ref a12, .ref a13, .int 0, .int 0, .ref a14, .ref a15, .int 0, .int 0, .int 0, .ref a16, .ref a17, .int 0, .int 0, .int 0, .int 0, .int 0, .ref a18, .int 0, .int 0, .int 0])), (a1, .inl (cB, 800, .inl f5))] := hD
  refine W.cs (cells' := 0) (slots' := 0) rfl rfl ?_
  refine lv_aload_n hx hb dX10_feed_47 rfl (lv_at hl 0 rfl) ?_
  refine va_get (D := D) (ci := 10) (v := .int 20) (C := RX10) (T := TX10) (N := 42) hx hb hts (fun w h => uc_in w (inX10 w h)) hown hK hP 0 rfl rfl 6 (by decide) (hts _ (uc_in _ q_f1194)) (fun _ h9 => h9) rfl dX10_feed_48 ?_
  have hD8 : va_D (va_A [(a0, .inr (10, [.int 0, .ref a2, .ref a3, .ref a4, .ref a5, .ref a1, .int 0, .int 0, .int 0, .int 0, .int 0, .long 0, .int 0, .int 0, .int 0, .int (-1), .ref a6, .ref a7, .ref a8, .ref a9, .ref a10, .ref a11, .ref a12, .ref a13, .int 0, .int 0, .ref a14, .ref a15, .int 0, .int 0, .int 0, .ref a16, .ref a17, .int 0, .int 0, .int 0, .int 0, .int 0, .ref a18, .int 0, .int 0, .int 0])), (a1, .inl (cB, 800, .inl (fun _ => 0)))] s.heap.size) [(a0, .inr (10, [.int 0, .ref a2, .ref a3, .ref a4, .ref a5, .ref a1, .int 20, .int 0, .int 0, .int 0, .int 0, .long 0, .int 0, .int 0, .int 0, .int (-1), .ref a6, .ref a7, .ref a8, .ref a9, .ref a10, .ref a11, .ref a12, .ref a13, .int 0, .int 0, .ref a14, .ref a15, .int 0, .int 0, .int 0, .ref a16, .ref a17, .int 0, .int 0, .int 0, .int 0, .int 0, .ref a18, .int 0, .int 0, .int 0])), (a1, .inl (cB, 800, .inl f5))] := by rw [← hAe]; exact hD
  have hS8 : va_S (va_A [(a0, .inr (10, [.int 0, .ref a2, .ref a3, .ref a4, .ref a5, .ref a1, .int 0, .int 0, .int 0, .int 0, .int 0, .long 0, .int 0, .int 0, .int 0, .int (-1), .ref a6, .ref a7, .ref a8, .ref a9, .ref a10, .ref a11, .ref a12, .ref a13, .int 0, .int 0, .ref a14, .ref a15, .int 0, .int 0, .int 0, .ref a16, .ref a17, .int 0, .int 0, .int 0, .int 0, .int 0, .ref a18, .int 0, .int 0, .int 0])), (a1, .inl (cB, 800, .inl (fun _ => 0)))] s.heap.size) s.heap H locs := by rw [← hAe]; exact hS
  have hP9 := hP.sub (ws' := [(a0, .inr (10, [.int 0, .ref a2, .ref a3, .ref a4, .ref a5, .ref a1, .int 20, .int 0, .int 0, .int 0, .int 0, .long 0, .int 0, .int 0, .int 0, .int (-1), .ref a6, .ref a7, .ref a8, .ref a9, .ref a10, .ref a11, .ref a12, .ref a13, .int 0, .int 0, .ref a14, .ref a15, .int 0, .int 0, .int 0, .ref a16, .ref a17, .int 0, .int 0, .int 0, .int 0, .int 0, .ref a18, .int 0, .int 0, .int 0])), (a1, .inl (cB, 800, .inl f5))]) [0, 1] rfl
  have hD9 := hD8.sub (ws' := [(a0, .inr (10, [.int 0, .ref a2, .ref a3, .ref a4, .ref a5, .ref a1, .int 20, .int 0, .int 0, .int 0, .int 0, .long 0, .int 0, .int 0, .int 0, .int (-1), .ref a6, .ref a7, .ref a8, .ref a9, .ref a10, .ref a11, .ref a12, .ref a13, .int 0, .int 0, .ref a14, .ref a15, .int 0, .int 0, .int 0, .ref a16, .ref a17, .int 0, .int 0, .int 0, .int 0, .int 0, .ref a18, .int 0, .int 0, .int 0])), (a1, .inl (cB, 800, .inl f5))]) [0, 1] rfl rfl
  exact W.iret hx hb hr (fun t ht hW => ⟨⟨20, f5, rfl, rfl, by rw [ht]; exact hP9, va_K.moved hW.alike hK, hD9⟩, hS8.F ht⟩) hS8.2.2 dX10_feed_51
set_option maxHeartbeats 4000000 in
set_option maxRecDepth 100000 in
theorem law_case_0 {p : Program} {l : Launch} {e : Env} {s : State} {m : MethodId} {below : List Frame} {meth : Method} {c : Code} {D : va_G} {cB cI cJ cZ cT cR : ClassId} {b : Nat} {xs : Nat → Int32} {A B : Nat → Nat} {H : Heap} {locs : List Loc} {ls : Array Slot} (C0 : lw_At p s m meth c b 6 xs) (hE : EX s) (hK : va_K D vwCl [(cB, .byte), (cI, .int), (cJ, .long), (cZ, .boolean), (cT, .object RX7), (cR, .object RX3)] s) (hP : va_P D vwCl (fwAll cB cI cJ cZ cT cR A B) H) (hD : va_D (fun q : Nat => s.heap.size ≤ q) (fwAll cB cI cJ cZ cT cR A B)) (hS : va_S (fun q : Nat => s.heap.size ≤ q) s.heap H locs) (hl : lv_has ls 4 [(3, .int 0), (2, .ref (B 0)), (1, .ref (A 0)), (0, .ref b)]) : W p l e room_1 s m #[Value.ref b] below meth c H locs 180 4779 (lw_Z below #[Value.ref b] s) (F0 m 336 ls []) := by
  obtain ⟨hx, hb, hr, hml, hown, hts, hX, hbl, hlocks, hgv⟩ := id C0
  have hown : s.vm.findClass RL = some m.cls := hown
  have hb : c.code = cL_law := hb
  have hA : ∀ q : Nat, s.heap.size ≤ q → (fun q : Nat => s.heap.size ≤ q) q := fun _ h => h
  have hbA : ¬ (fun q : Nat => s.heap.size ≤ q) b := Nat.not_le.mpr hbl
  have hP := hP.sub (ws' := [((A 0), .inr (9, [.ref (A 1), .ref (A 3), .ref (A 12), .ref (A 21), .int 0, .ref (A 49), .ref (A 51), .ref (A 60), .ref (A 61), .ref (A 62), .ref (A 63), .ref (A 64)])), ((A 1), .inr (6, [.ref (A 2), .int 0, .int 0, .int (-1), .int 0, .int 0, .int 0, .int 0])), ((A 2), .inl (cB, 800, .inl (fun _ => 0))), ((B 0), .inr (10, [.int 0, .ref (B 1), .ref (B 2), .ref (B 3), .ref (B 4), .ref (B 5), .int 0, .int 0, .int 0, .int 0, .int 0, .long 0, .int 0, .int 0, .int 0, .int (-1), .ref (B 6), .ref (B 7), .ref (B 8), .ref (B 9), .ref (B 10), .ref (B 11), .ref (B 12), .ref (B 13), .int 0, .int 0, .ref (B 14), .ref (B 15), .int 0, .int 0, .int 0, .ref (B 16), .ref (B 17), .int 0, .int 0, .int 0, .int 0, .int 0, .ref (B 18), .int 0, .int 0, .int 0])), ((B 5), .inl (cB, 800, .inl (fun _ => 0)))]) [0, 1, 2, 60, 65] rfl
  have hD := hD.sub (ws' := [((A 0), .inr (9, [.ref (A 1), .ref (A 3), .ref (A 12), .ref (A 21), .int 0, .ref (A 49), .ref (A 51), .ref (A 60), .ref (A 61), .ref (A 62), .ref (A 63), .ref (A 64)])), ((A 1), .inr (6, [.ref (A 2), .int 0, .int 0, .int (-1), .int 0, .int 0, .int 0, .int 0])), ((A 2), .inl (cB, 800, .inl (fun _ => 0))), ((B 0), .inr (10, [.int 0, .ref (B 1), .ref (B 2), .ref (B 3), .ref (B 4), .ref (B 5), .int 0, .int 0, .int 0, .int 0, .int 0, .long 0, .int 0, .int 0, .int 0, .int (-1), .ref (B 6), .ref (B 7), .ref (B 8), .ref (B 9), .ref (B 10), .ref (B 11), .ref (B 12), .ref (B 13), .int 0, .int 0, .ref (B 14), .ref (B 15), .int 0, .int 0, .int 0, .ref (B 16), .ref (B 17), .int 0, .int 0, .int 0, .int 0, .int 0, .ref (B 18), .int 0, .int 0, .int 0])), ((B 5), .inl (cB, 800, .inl (fun _ => 0)))]) [0, 1, 2, 60, 65] rfl rfl
  refine lv_aload_n hx hb dL_law_336 rfl (lv_at hl 2 rfl) ?_
  refine lv_aload_n hx hb dL_law_337 rfl (lv_at hl 3 rfl) ?_
  refine lv_iload_n hx hb dL_law_338 rfl (lv_at hl 0 rfl) ?_
  refine lv_iconst (v := 1) hx hb dL_law_339 (by decide) ?_
  refine lv_iadd hx hb dL_law_340 ?_
  refine pv_i (v := 1) (by decide) ?_
  refine va_sld hx hb hX hbl hbA hS (vp_in_iff.mpr ⟨by decide, by decide⟩) dL_law_341 ?_
  refine lv_topi (fun p1 ep1 => ?_)
  refine lv_aload_n hx hb dL_law_342 rfl (lv_at hl 3 rfl) ?_
  refine lv_iload_n hx hb dL_law_343 rfl (lv_at hl 0 rfl) ?_
  refine lv_iconst (v := 2) hx hb dL_law_344 (by decide) ?_
  refine lv_iadd hx hb dL_law_345 ?_
  refine pv_i (v := 2) (by decide) ?_
  refine va_sld hx hb hX hbl hbA hS (vp_in_iff.mpr ⟨by decide, by decide⟩) dL_law_346 ?_
  refine lv_topi (fun p2 ep2 => ?_)
  refine lv_aload_n hx hb dL_law_347 rfl (lv_at hl 3 rfl) ?_
  refine lv_iload_n hx hb dL_law_348 rfl (lv_at hl 0 rfl) ?_
  refine lv_iconst (v := 3) hx hb dL_law_349 (by decide) ?_
  refine lv_iadd hx hb dL_law_350 ?_
  refine pv_i (v := 3) (by decide) ?_
  refine va_sld hx hb hX hbl hbA hS (vp_in_iff.mpr ⟨by decide, by decide⟩) dL_law_351 ?_
  refine lv_topi (fun p3 ep3 => ?_)
  refine lv_aload_n hx hb dL_law_352 rfl (lv_at hl 3 rfl) ?_
  refine lv_iload_n hx hb dL_law_353 rfl (lv_at hl 0 rfl) ?_
  refine lv_iconst (v := 4) hx hb dL_law_354 (by decide) ?_
  refine lv_iadd hx hb dL_law_355 ?_
  refine pv_i (v := 4) (by decide) ?_
  refine va_sld hx hb hX hbl hbA hS (vp_in_iff.mpr ⟨by decide, by decide⟩) dL_law_356 ?_
  refine lv_topi (fun p4 ep4 => ?_)
  refine lv_aload_n hx hb dL_law_357 rfl (lv_at hl 3 rfl) ?_
  refine lv_iload_n hx hb dL_law_358 rfl (lv_at hl 0 rfl) ?_
  refine lv_iconst (v := 5) hx hb dL_law_359 (by decide) ?_
  refine lv_iadd hx hb dL_law_360 ?_
  refine pv_i (v := 5) (by decide) ?_
  refine va_sld hx hb hX hbl hbA hS (vp_in_iff.mpr ⟨by decide, by decide⟩) dL_law_361 ?_
  refine lv_topi (fun p5 ep5 => ?_)
  refine cvM (n := 5) (As := [.int p1, .int p2, .int p3, .int p4, .int p5]) (rest := []) (wr := [((B 0), .inr (10, [.int 0, .ref (B 1), .ref (B 2), .ref (B 3), .ref (B 4), .ref (B 5), .int 0, .int 0, .int 0, .int 0, .int 0, .long 0, .int 0, .int 0, .int 0, .int (-1), .ref (B 6), .ref (B 7), .ref (B 8), .ref (B 9), .ref (B 10), .ref (B 11), .ref (B 12), .ref (B 13), .int 0, .int 0, .ref (B 14), .ref (B 15), .int 0, .int 0, .int 0, .ref (B 16), .ref (B 17), .int 0, .int 0, .int 0, .int 0, .int 0, .ref (B 18), .int 0, .int 0, .int 0])), ((B 5), .inl (cB, 800, .inl (fun _ => 0)))]) ⟨hx, hb, hml, hown, hts⟩ (fun _ h => uw_in h) (kX9_feed_0 l D cB cI cJ cZ cT cR (A 0) (A 1) (A 2) (A 3) (A 12) (A 21) (A 49) (A 51) (A 60) (A 61) (A 62) (A 63) (A 64) p1 p2 p3 p4 p5 H.size) q_m420 q_n421 q_e422 q_i1 q_c423 (by decide +kernel) ⟨(Nat.le_of_ble_eq_true rfl), (Nat.le_of_ble_eq_true rfl)⟩ ⟨(Nat.le_of_ble_eq_true rfl), (Nat.le_of_ble_eq_true rfl)⟩ hE hK hP hD hS hA [0, 1, 2] [3, 4] rfl rfl rfl rfl (by decide) 9 0 rfl rfl rfl hl.1 rfl (Nat.le_of_ble_eq_true rfl) dL_law_362 (fun r9 f1 H locs hpo hP hD hS => ?_)
  have hP : va_P D vwCl [((B 0), .inr (10, [.int 0, .ref (B 1), .ref (B 2), .ref (B 3), .ref (B 4), .ref (B 5), .int 0, .int 0, .int 0, .int 0, .int 0, .long 0, .int 0, .int 0, .int 0, .int (-1), .ref (B 6), .ref (B 7), .ref (B 8), .ref (B 9), .ref (B 10), .ref (B 11), .ref (B 12), .ref (B 13), .int 0, .int 0, .ref (B 14), .ref (B 15), .int 0, .int 0, .int 0, .ref (B 16), .ref (B 17), .int 0, .int 0, .int 0, .int 0, .int 0, .ref (B 18), .int 0, .int 0, .int 0])), ((B 5), .inl (cB, 800, .inl (fun _ => 0))), ((A 0), .inr (9, [.ref (A 1), .ref (A 3), .ref (A 12), .ref (A 21), .int 0, .ref (A 49), .ref (A 51), .ref (A 60), .ref (A 61), .ref (A 62), .ref (A 63), .ref (A 64)])), ((A 1), .inr (6, [.ref (A 2), .int 20, .int 0, .int (-1), .int 0, .int 0, .int 0, .int 0])), ((A 2), .inl (cB, 800, .inl f1))] H := hP
  have hD : va_D (fun q : Nat => s.heap.size ≤ q) [((B 0), .inr (10, [.int 0, .ref (B 1), .ref (B 2), .ref (B 3), .ref (B 4), .ref (B 5), .int 0, .int 0, .int 0, .int 0, .int 0, .long 0, .int 0, .int 0, .int 0, .int (-1), .ref (B 6), .ref (B 7), .ref (B 8), .ref (B 9), .ref (B 10), .ref (B 11), .ref (B 12), .ref (B 13), .int 0, .int 0, .ref (B 14), .ref (B 15), .int 0, .int 0, .int 0, .ref (B 16), .ref (B 17), .int 0, .int 0, .int 0, .int 0, .int 0, .ref (B 18), .int 0, .int 0, .int 0])), ((B 5), .inl (cB, 800, .inl (fun _ => 0))), ((A 0), .inr (9, [.ref (A 1), .ref (A 3), .ref (A 12), .ref (A 21), .int 0, .ref (A 49), .ref (A 51), .ref (A 60), .ref (A 61), .ref (A 62), .ref (A 63), .ref (A 64)])), ((A 1), .inr (6, [.ref (A 2), .int 20, .int 0, .int (-1), .int 0, .int 0, .int 0, .int 0])), ((A 2), .inl (cB, 800, .inl f1))] := hD
  refine W.cs (cells' := 180) (slots' := 4779) rfl rfl ?_
  refine pv_i (v := 20) hpo ?_
  refine lv_aload_n hx hb dL_law_365 rfl (lv_at hl 1 rfl) ?_
  refine lv_aload_n hx hb dL_law_366 rfl (lv_at hl 3 rfl) ?_
  refine lv_iload_n hx hb dL_law_367 rfl (lv_at hl 0 rfl) ?_
  refine lv_iconst (v := 1) hx hb dL_law_368 (by decide) ?_
  refine lv_iadd hx hb dL_law_369 ?_
  refine pv_i (v := 1) (by decide) ?_
  refine va_sld hx hb hX hbl hbA hS (vp_in_iff.mpr ⟨by decide, by decide⟩) dL_law_370 ?_
  refine pv_i (v := p1) ep1.symm ?_
  refine lv_aload_n hx hb dL_law_371 rfl (lv_at hl 3 rfl) ?_
  refine lv_iload_n hx hb dL_law_372 rfl (lv_at hl 0 rfl) ?_
  refine lv_iconst (v := 2) hx hb dL_law_373 (by decide) ?_
  refine lv_iadd hx hb dL_law_374 ?_
  refine pv_i (v := 2) (by decide) ?_
  refine va_sld hx hb hX hbl hbA hS (vp_in_iff.mpr ⟨by decide, by decide⟩) dL_law_375 ?_
  refine pv_i (v := p2) ep2.symm ?_
  refine lv_aload_n hx hb dL_law_376 rfl (lv_at hl 3 rfl) ?_
  refine lv_iload_n hx hb dL_law_377 rfl (lv_at hl 0 rfl) ?_
  refine lv_iconst (v := 3) hx hb dL_law_378 (by decide) ?_
  refine lv_iadd hx hb dL_law_379 ?_
  refine pv_i (v := 3) (by decide) ?_
  refine va_sld hx hb hX hbl hbA hS (vp_in_iff.mpr ⟨by decide, by decide⟩) dL_law_380 ?_
  refine pv_i (v := p3) ep3.symm ?_
  refine lv_aload_n hx hb dL_law_381 rfl (lv_at hl 3 rfl) ?_
  refine lv_iload_n hx hb dL_law_382 rfl (lv_at hl 0 rfl) ?_
  refine lv_iconst (v := 4) hx hb dL_law_383 (by decide) ?_
  refine lv_iadd hx hb dL_law_384 ?_
  refine pv_i (v := 4) (by decide) ?_
  refine va_sld hx hb hX hbl hbA hS (vp_in_iff.mpr ⟨by decide, by decide⟩) dL_law_385 ?_
  refine pv_i (v := p4) ep4.symm ?_
  refine lv_aload_n hx hb dL_law_386 rfl (lv_at hl 3 rfl) ?_
  refine lv_iload_n hx hb dL_law_387 rfl (lv_at hl 0 rfl) ?_
  refine lv_iconst (v := 5) hx hb dL_law_388 (by decide) ?_
  refine lv_iadd hx hb dL_law_389 ?_
  refine pv_i (v := 5) (by decide) ?_
  refine va_sld hx hb hX hbl hbA hS (vp_in_iff.mpr ⟨by decide, by decide⟩) dL_law_390 ?_
  refine pv_i (v := p5) ep5.symm ?_
  refine cvM (n := 5) (As := [.int p1, .int p2, .int p3, .int p4, .int p5]) (rest := [.int 20]) (wr := [((A 0), .inr (9, [.ref (A 1), .ref (A 3), .ref (A 12), .ref (A 21), .int 0, .ref (A 49), .ref (A 51), .ref (A 60), .ref (A 61), .ref (A 62), .ref (A 63), .ref (A 64)])), ((A 1), .inr (6, [.ref (A 2), .int 20, .int 0, .int (-1), .int 0, .int 0, .int 0, .int 0])), ((A 2), .inl (cB, 800, .inl f1))]) ⟨hx, hb, hml, hown, hts⟩ (fun _ h => uw_in h) (kX10_feed_0 l D cB cI cJ cZ cT cR (B 0) (B 5) (B 1) (B 2) (B 3) (B 4) (B 6) (B 7) (B 8) (B 9) (B 10) (B 11) (B 12) (B 13) (B 14) (B 15) (B 16) (B 17) (B 18) p1 p2 p3 p4 p5 H.size) q_m1338 q_n1339 q_e1340 q_i11 q_c1341 (by decide +kernel) ⟨(Nat.le_of_ble_eq_true rfl), (Nat.le_of_ble_eq_true rfl)⟩ ⟨(Nat.le_of_ble_eq_true rfl), (Nat.le_of_ble_eq_true rfl)⟩ hE hK hP hD hS hA [0, 1] [2, 3, 4] rfl rfl rfl rfl (by decide) 10 0 rfl rfl rfl hl.1 rfl (Nat.le_of_ble_eq_true rfl) dL_law_391 (fun r9 f2 H locs hpo hP hD hS => ?_)
  have hP : va_P D vwCl [((A 0), .inr (9, [.ref (A 1), .ref (A 3), .ref (A 12), .ref (A 21), .int 0, .ref (A 49), .ref (A 51), .ref (A 60), .ref (A 61), .ref (A 62), .ref (A 63), .ref (A 64)])), ((A 1), .inr (6, [.ref (A 2), .int 20, .int 0, .int (-1), .int 0, .int 0, .int 0, .int 0])), ((A 2), .inl (cB, 800, .inl f1)), ((B 0), .inr (10, [.int 0, .ref (B 1), .ref (B 2), .ref (B 3), .ref (B 4), .ref (B 5), .int 20, .int 0, .int 0, .int 0, .int 0, .long 0, .int 0, .int 0, .int 0, .int (-1), .ref (B 6), .ref (B 7), .ref (B 8), .ref (B 9), .ref (B 10), .ref (B 11), .ref (B 12), .ref (B 13), .int 0, .int 0, .ref (B 14), .ref (B 15), .int 0, .int 0, .int 0, .ref (B 16), .ref (B 17), .int 0, .int 0, .int 0, .int 0, .int 0, .ref (B 18), .int 0, .int 0, .int 0])), ((B 5), .inl (cB, 800, .inl f2))] H := hP
  have hD : va_D (fun q : Nat => s.heap.size ≤ q) [((A 0), .inr (9, [.ref (A 1), .ref (A 3), .ref (A 12), .ref (A 21), .int 0, .ref (A 49), .ref (A 51), .ref (A 60), .ref (A 61), .ref (A 62), .ref (A 63), .ref (A 64)])), ((A 1), .inr (6, [.ref (A 2), .int 20, .int 0, .int (-1), .int 0, .int 0, .int 0, .int 0])), ((A 2), .inl (cB, 800, .inl f1)), ((B 0), .inr (10, [.int 0, .ref (B 1), .ref (B 2), .ref (B 3), .ref (B 4), .ref (B 5), .int 20, .int 0, .int 0, .int 0, .int 0, .long 0, .int 0, .int 0, .int 0, .int (-1), .ref (B 6), .ref (B 7), .ref (B 8), .ref (B 9), .ref (B 10), .ref (B 11), .ref (B 12), .ref (B 13), .int 0, .int 0, .ref (B 14), .ref (B 15), .int 0, .int 0, .int 0, .ref (B 16), .ref (B 17), .int 0, .int 0, .int 0, .int 0, .int 0, .ref (B 18), .int 0, .int 0, .int 0])), ((B 5), .inl (cB, 800, .inl f2))] := hD
  refine W.cs (cells' := 180) (slots' := 4779) rfl rfl ?_
  refine pv_i (v := 20) hpo ?_
  refine lv_icmp_eq (tgt := 2362) hx hb dL_law_394 (by decide) (fun _ => ?_) (fun c9 => absurd (by decide) c9)
  exact law_end C0 hS (Nat.le_of_ble_eq_true rfl) (Nat.le_of_ble_eq_true rfl) ls hl
