set_option maxHeartbeats 4000000 in
set_option maxRecDepth 100000 in
theorem kX10_next_0 (l : Launch) (D : va_G) (cB cI cJ cZ cT cR : ClassId) (a0 a1 a2 a3 a4 a5 a6 a7 a8 a9 a10 a11 a12 a13 a14 a15 a16 a17 a18 : Nat) (sz : Nat) : Met l yX10_next (uc yX10_next cX10_next 2 none) (rmL 2 0 0) (va_Pc [.ref a0] (MPre D [(cB, .byte), (cI, .int), (cJ, .long), (cZ, .boolean), (cT, .object RX7), (cR, .object RX3)] [(a0, .inr (10, [.int 0, .ref a1, .ref a2, .ref a3, .ref a4, .ref a5, .int 0, .int 0, .int 0, .int 0, .int 0, .long 0, .int 0, .int (-1), .int 0, .int (-1), .ref a6, .ref a7, .ref a8, .ref a9, .ref a10, .ref a11, .ref a12, .ref a13, .int 0, .int 0, .ref a14, .ref a15, .int 0, .int 0, .int 0, .ref a16, .ref a17, .int 0, .int 0, .int 0, .int 0, .int 0, .ref a18, .int 0, .int 0, .int 0]))] sz)) (va_Qv (fun (_ : Unit) => True) (MB D [(cB, .byte), (cI, .int), (cJ, .long), (cZ, .boolean), (cT, .object RX7), (cR, .object RX3)] [(a0, .inr (10, [.int 0, .ref a1, .ref a2, .ref a3, .ref a4, .ref a5, .int 0, .int 0, .int 0, .int 0, .int 0, .long 0, .int 0, .int (-1), .int 0, .int (-1), .ref a6, .ref a7, .ref a8, .ref a9, .ref a10, .ref a11, .ref a12, .ref a13, .int 0, .int 0, .ref a14, .ref a15, .int 0, .int 0, .int 0, .ref a16, .ref a17, .int 0, .int 0, .int 0, .int 0, .int 0, .ref a18, .int 0, .int 0, .int 0]))] sz (fun (u : Unit) => [(a0, .inr (10, [.int 0, .ref a1, .ref a2, .ref a3, .ref a4, .ref a5, .int 0, .int 0, .int 0, .int 0, .int 0, .long 0, .int 0, .int (-1), .int 0, .int (-1), .ref a6, .ref a7, .ref a8, .ref a9, .ref a10, .ref a11, .ref a12, .ref a13, .int 0, .int 0, .ref a14, .ref a15, .int 0, .int 0, .int 0, .ref a16, .ref a17, .int 0, .int 0, .int 0, .int 0, .int 0, .ref a18, .int 0, .int 0, .int 0]))])) (va_A [(a0, .inr (10, [.int 0, .ref a1, .ref a2, .ref a3, .ref a4, .ref a5, .int 0, .int 0, .int 0, .int 0, .int 0, .long 0, .int 0, .int (-1), .int 0, .int (-1), .ref a6, .ref a7, .ref a8, .ref a9, .ref a10, .ref a11, .ref a12, .ref a13, .int 0, .int 0, .ref a14, .ref a15, .int 0, .int 0, .int 0, .ref a16, .ref a17, .int 0, .int 0, .int 0, .int 0, .int 0, .ref a18, .int 0, .int 0, .int 0]))] sz)) 0 0 (va_A [(a0, .inr (10, [.int 0, .ref a1, .ref a2, .ref a3, .ref a4, .ref a5, .int 0, .int 0, .int 0, .int 0, .int 0, .long 0, .int 0, .int (-1), .int 0, .int (-1), .ref a6, .ref a7, .ref a8, .ref a9, .ref a10, .ref a11, .ref a12, .ref a13, .int 0, .int 0, .ref a14, .ref a15, .int 0, .int 0, .int 0, .ref a16, .ref a17, .int 0, .int 0, .int 0, .int 0, .int 0, .ref a18, .int 0, .int 0, .int 0]))] sz) := by
  refine pm (by decide) (Nat.le_of_ble_eq_true rfl) ?_
  intro p e s m below meth c ls hx hb hr hml hown hlk hnm hts hv hl
  have hown : s.vm.findClass RX10 = some m.cls := hown
  have hl : lv_has ls 2 [(0, .ref a0)] := hl
  obtain ⟨hsz, hP, hK, hD0, hE⟩ := hv
  subst hsz
  have hD := hD0.self (sz := s.heap.size)
  obtain ⟨AA, hAe⟩ : ∃ AA, AA = va_A [(a0, .inr (10, [.int 0, .ref a1, .ref a2, .ref a3, .ref a4, .ref a5, .int 0, .int 0, .int 0, .int 0, .int 0, .long 0, .int 0, .int (-1), .int 0, .int (-1), .ref a6, .ref a7, .ref a8, .ref a9, .ref a10, .ref a11, .ref a12, .ref a13, .int 0, .int 0, .ref a14, .ref a15, .int 0, .int 0, .int 0, .ref a16, .ref a17, .int 0, .int 0, .int 0, .int 0, .int 0, .ref a18, .int 0, .int 0, .int 0]))] s.heap.size := ⟨_, rfl⟩
  rw [← hAe] at hD
  have hA : ∀ q : Nat, s.heap.size ≤ q → AA q := fun q h => by rw [hAe]; exact Or.inr h
  have hS : va_S AA s.heap s.heap [] := va_S.rf
  obtain ⟨-, hAOT, hAOR, hAOI⟩ := id hE
  refine lv_aload_n hx hb dX10_next_0 rfl (lv_at hl 0 rfl) ?_
  refine lv_aload_n hx hb dX10_next_1 rfl (lv_at hl 0 rfl) ?_
  refine va_get (D := D) (ci := 10) (v := .int 0) (C := RX10) (T := TX10) (N := 42) hx hb hts (fun w h => uc_in w (inX10 w h)) hown hK hP 0 rfl rfl 7 (by decide) (hts _ (uc_in _ q_f1195)) (fun _ h9 => h9) rfl dX10_next_2 ?_
  refine lv_bipush (v := 32) hx hb dX10_next_5 (by decide) ?_
  refine lv_bipush (v := 32) hx hb dX10_next_7 (by decide) ?_
  refine cvR (n := 3) (As := [.int 0, .int 32, .int 32]) (rest := []) ⟨hx, hb, hml, hown, hts⟩ uc_in (kX10_isByte_0 l D cB cI cJ cZ cT cR a0 a1 a2 a3 a4 a5 a6 a7 a8 a9 a10 a11 a12 a13 a14 a15 a16 a17 a18) q_m1374 q_n1376 q_p56 q_i11 q_c1377 (by decide +kernel) ⟨(Nat.le_of_ble_eq_true rfl), (Nat.le_of_ble_eq_true rfl)⟩ ⟨(Nat.le_of_ble_eq_true rfl), (Nat.le_of_ble_eq_true rfl)⟩ hK (hP.sub (ws' := [(a0, .inr (10, [.int 0, .ref a1, .ref a2, .ref a3, .ref a4, .ref a5, .int 0, .int 0, .int 0, .int 0, .int 0, .long 0, .int 0, .int (-1), .int 0, .int (-1), .ref a6, .ref a7, .ref a8, .ref a9, .ref a10, .ref a11, .ref a12, .ref a13, .int 0, .int 0, .ref a14, .ref a15, .int 0, .int 0, .int 0, .ref a16, .ref a17, .int 0, .int 0, .int 0, .int 0, .int 0, .ref a18, .int 0, .int 0, .int 0]))]) [0] rfl) 10 0 rfl rfl rfl hl.1 rfl (Nat.le_of_ble_eq_true rfl) dX10_next_9 ?_
  refine lv_if_ne (tgt := 30) hx hb dX10_next_12 (by decide) (fun c9 => absurd (by decide) c9) (fun _ => ?_)
  refine lv_aload_n hx hb dX10_next_15 rfl (lv_at hl 0 rfl) ?_
  refine lv_aload_n hx hb dX10_next_16 rfl (lv_at hl 0 rfl) ?_
  refine va_get (D := D) (ci := 10) (v := .int 0) (C := RX10) (T := TX10) (N := 42) hx hb hts (fun w h => uc_in w (inX10 w h)) hown hK hP 0 rfl rfl 7 (by decide) (hts _ (uc_in _ q_f1195)) (fun _ h9 => h9) rfl dX10_next_17 ?_
  refine lv_bipush (v := 10) hx hb dX10_next_20 (by decide) ?_
  refine lv_bipush (v := 10) hx hb dX10_next_22 (by decide) ?_
  refine cvR (n := 3) (As := [.int 0, .int 10, .int 10]) (rest := []) ⟨hx, hb, hml, hown, hts⟩ uc_in (kX10_isByte_1 l D cB cI cJ cZ cT cR a0 a1 a2 a3 a4 a5 a6 a7 a8 a9 a10 a11 a12 a13 a14 a15 a16 a17 a18) q_m1374 q_n1376 q_p56 q_i11 q_c1377 (by decide +kernel) ⟨(Nat.le_of_ble_eq_true rfl), (Nat.le_of_ble_eq_true rfl)⟩ ⟨(Nat.le_of_ble_eq_true rfl), (Nat.le_of_ble_eq_true rfl)⟩ hK (hP.sub (ws' := [(a0, .inr (10, [.int 0, .ref a1, .ref a2, .ref a3, .ref a4, .ref a5, .int 0, .int 0, .int 0, .int 0, .int 0, .long 0, .int 0, .int (-1), .int 0, .int (-1), .ref a6, .ref a7, .ref a8, .ref a9, .ref a10, .ref a11, .ref a12, .ref a13, .int 0, .int 0, .ref a14, .ref a15, .int 0, .int 0, .int 0, .ref a16, .ref a17, .int 0, .int 0, .int 0, .int 0, .int 0, .ref a18, .int 0, .int 0, .int 0]))]) [0] rfl) 10 0 rfl rfl rfl hl.1 rfl (Nat.le_of_ble_eq_true rfl) dX10_next_24 ?_
  refine lv_if_eq (tgt := 43) hx hb dX10_next_27 (by decide) (fun _ => ?_) (fun c9 => absurd (by decide) c9)
  refine lv_aload_n hx hb dX10_next_43 rfl (lv_at hl 0 rfl) ?_
  refine lv_aload_n hx hb dX10_next_44 rfl (lv_at hl 0 rfl) ?_
  refine va_get (D := D) (ci := 10) (v := .int 0) (C := RX10) (T := TX10) (N := 42) hx hb hts (fun w h => uc_in w (inX10 w h)) hown hK hP 0 rfl rfl 7 (by decide) (hts _ (uc_in _ q_f1195)) (fun _ h9 => h9) rfl dX10_next_45 ?_
  refine va_put (D := D) (ci := 10) (v := .int 0) (ty := .int) (C := RX10) (T := TX10) (N := 42) hx hb hts (fun w h => uc_in w (inX10 w h)) tyX10 tyX10_ok nmX10 hown hK hP hD hS 0 rfl rfl 9 (by decide) (hts _ (uc_in _ q_f1197)) (fun _ h9 => h9) rfl (by decide +kernel) rfl rfl (Nat.le_of_ble_eq_true rfl) dX10_next_48 (fun H locs hP hD hS => ?_)
  have hP : va_P D vwCl [(a0, .inr (10, [.int 0, .ref a1, .ref a2, .ref a3, .ref a4, .ref a5, .int 0, .int 0, .int 0, .int 0, .int 0, .long 0, .int 0, .int (-1), .int 0, .int (-1), .ref a6, .ref a7, .ref a8, .ref a9, .ref a10, .ref a11, .ref a12, .ref a13, .int 0, .int 0, .ref a14, .ref a15, .int 0, .int 0, .int 0, .ref a16, .ref a17, .int 0, .int 0, .int 0, .int 0, .int 0, .ref a18, .int 0, .int 0, .int 0]))] H := hP
  have hD : va_D AA [(a0, .inr (10, [.int 0, .ref a1, .ref a2, .ref a3, .ref a4, .ref a5, .int 0, .int 0, .int 0, .int 0, .int 0, .long 0, .int 0, .int (-1), .int 0, .int (-1), .ref a6, .ref a7, .ref a8, .ref a9, .ref a10, .ref a11, .ref a12, .ref a13, .int 0, .int 0, .ref a14, .ref a15, .int 0, .int 0, .int 0, .ref a16, .ref a17, .int 0, .int 0, .int 0, .int 0, .int 0, .ref a18, .int 0, .int 0, .int 0]))] := hD
  refine lv_aload_n hx hb dX10_next_51 rfl (lv_at hl 0 rfl) ?_
  refine lv_iconst (v := 0) hx hb dX10_next_52 (by decide) ?_
  refine va_put (D := D) (ci := 10) (v := .int 0) (ty := .int) (C := RX10) (T := TX10) (N := 42) hx hb hts (fun w h => uc_in w (inX10 w h)) tyX10 tyX10_ok nmX10 hown hK hP hD hS 0 rfl rfl 10 (by decide) (hts _ (uc_in _ q_f1198)) (fun _ h9 => h9) rfl (by decide +kernel) rfl rfl (Nat.le_of_ble_eq_true rfl) dX10_next_53 (fun H locs hP hD hS => ?_)
  have hP : va_P D vwCl [(a0, .inr (10, [.int 0, .ref a1, .ref a2, .ref a3, .ref a4, .ref a5, .int 0, .int 0, .int 0, .int 0, .int 0, .long 0, .int 0, .int (-1), .int 0, .int (-1), .ref a6, .ref a7, .ref a8, .ref a9, .ref a10, .ref a11, .ref a12, .ref a13, .int 0, .int 0, .ref a14, .ref a15, .int 0, .int 0, .int 0, .ref a16, .ref a17, .int 0, .int 0, .int 0, .int 0, .int 0, .ref a18, .int 0, .int 0, .int 0]))] H := hP
  have hD : va_D AA [(a0, .inr (10, [.int 0, .ref a1, .ref a2, .ref a3, .ref a4, .ref a5, .int 0, .int 0, .int 0, .int 0, .int 0, .long 0, .int 0, .int (-1), .int 0, .int (-1), .ref a6, .ref a7, .ref a8, .ref a9, .ref a10, .ref a11, .ref a12, .ref a13, .int 0, .int 0, .ref a14, .ref a15, .int 0, .int 0, .int 0, .ref a16, .ref a17, .int 0, .int 0, .int 0, .int 0, .int 0, .ref a18, .int 0, .int 0, .int 0]))] := hD
  refine lv_aload_n hx hb dX10_next_56 rfl (lv_at hl 0 rfl) ?_
  refine lv_lconst (v := 0) hx hb dX10_next_57 (by decide) ?_
  refine va_put (D := D) (ci := 10) (v := .long 0) (ty := .long) (C := RX10) (T := TX10) (N := 42) hx hb hts (fun w h => uc_in w (inX10 w h)) tyX10 tyX10_ok nmX10 hown hK hP hD hS 0 rfl rfl 11 (by decide) (hts _ (uc_in _ q_f1199)) (fun _ h9 => h9) rfl (by decide +kernel) rfl rfl (Nat.le_of_ble_eq_true rfl) dX10_next_58 (fun H locs hP hD hS => ?_)
  have hP : va_P D vwCl [(a0, .inr (10, [.int 0, .ref a1, .ref a2, .ref a3, .ref a4, .ref a5, .int 0, .int 0, .int 0, .int 0, .int 0, .long 0, .int 0, .int (-1), .int 0, .int (-1), .ref a6, .ref a7, .ref a8, .ref a9, .ref a10, .ref a11, .ref a12, .ref a13, .int 0, .int 0, .ref a14, .ref a15, .int 0, .int 0, .int 0, .ref a16, .ref a17, .int 0, .int 0, .int 0, .int 0, .int 0, .ref a18, .int 0, .int 0, .int 0]))] H := hP
  have hD : va_D AA [(a0, .inr (10, [.int 0, .ref a1, .ref a2, .ref a3, .ref a4, .ref a5, .int 0, .int 0, .int 0, .int 0, .int 0, .long 0, .int 0, .int (-1), .int 0, .int (-1), .ref a6, .ref a7, .ref a8, .ref a9, .ref a10, .ref a11, .ref a12, .ref a13, .int 0, .int 0, .ref a14, .ref a15, .int 0, .int 0, .int 0, .ref a16, .ref a17, .int 0, .int 0, .int 0, .int 0, .int 0, .ref a18, .int 0, .int 0, .int 0]))] := hD
  refine lv_aload_n hx hb dX10_next_61 rfl (lv_at hl 0 rfl) ?_
  refine va_get (D := D) (ci := 10) (v := .int 0) (C := RX10) (T := TX10) (N := 42) hx hb hts (fun w h => uc_in w (inX10 w h)) hown hK hP 0 rfl rfl 7 (by decide) (hts _ (uc_in _ q_f1195)) (fun _ h9 => h9) rfl dX10_next_62 ?_
  refine lv_aload_n hx hb dX10_next_65 rfl (lv_at hl 0 rfl) ?_
  refine va_get (D := D) (ci := 10) (v := .int 0) (C := RX10) (T := TX10) (N := 42) hx hb hts (fun w h => uc_in w (inX10 w h)) hown hK hP 0 rfl rfl 6 (by decide) (hts _ (uc_in _ q_f1194)) (fun _ h9 => h9) rfl dX10_next_66 ?_
  refine lv_icmp_ne (tgt := 80) hx hb dX10_next_69 (by decide) (fun c9 => absurd (by decide) c9) (fun _ => ?_)
  refine lv_aload_n hx hb dX10_next_72 rfl (lv_at hl 0 rfl) ?_
  refine lv_iconst (v := 0) hx hb dX10_next_73 (by decide) ?_
  refine va_put (D := D) (ci := 10) (v := .int 0) (ty := .int) (C := RX10) (T := TX10) (N := 42) hx hb hts (fun w h => uc_in w (inX10 w h)) tyX10 tyX10_ok nmX10 hown hK hP hD hS 0 rfl rfl 8 (by decide) (hts _ (uc_in _ q_f1196)) (fun _ h9 => h9) rfl (by decide +kernel) rfl rfl (Nat.le_of_ble_eq_true rfl) dX10_next_74 (fun H locs hP hD hS => ?_)
  have hP : va_P D vwCl [(a0, .inr (10, [.int 0, .ref a1, .ref a2, .ref a3, .ref a4, .ref a5, .int 0, .int 0, .int 0, .int 0, .int 0, .long 0, .int 0, .int (-1), .int 0, .int (-1), .ref a6, .ref a7, .ref a8, .ref a9, .ref a10, .ref a11, .ref a12, .ref a13, .int 0, .int 0, .ref a14, .ref a15, .int 0, .int 0, .int 0, .ref a16, .ref a17, .int 0, .int 0, .int 0, .int 0, .int 0, .ref a18, .int 0, .int 0, .int 0]))] H := hP
  have hD : va_D AA [(a0, .inr (10, [.int 0, .ref a1, .ref a2, .ref a3, .ref a4, .ref a5, .int 0, .int 0, .int 0, .int 0, .int 0, .long 0, .int 0, .int (-1), .int 0, .int (-1), .ref a6, .ref a7, .ref a8, .ref a9, .ref a10, .ref a11, .ref a12, .ref a13, .int 0, .int 0, .ref a14, .ref a15, .int 0, .int 0, .int 0, .ref a16, .ref a17, .int 0, .int 0, .int 0, .int 0, .int 0, .ref a18, .int 0, .int 0, .int 0]))] := hD
  refine lv_goto (tgt := 307) hx hb dX10_next_77 (by decide) ?_
  have hD8 : va_D (va_A [(a0, .inr (10, [.int 0, .ref a1, .ref a2, .ref a3, .ref a4, .ref a5, .int 0, .int 0, .int 0, .int 0, .int 0, .long 0, .int 0, .int (-1), .int 0, .int (-1), .ref a6, .ref a7, .ref a8, .ref a9, .ref a10, .ref a11, .ref a12, .ref a13, .int 0, .int 0, .ref a14, .ref a15, .int 0, .int 0, .int 0, .ref a16, .ref a17, .int 0, .int 0, .int 0, .int 0, .int 0, .ref a18, .int 0, .int 0, .int 0]))] s.heap.size) [(a0, .inr (10, [.int 0, .ref a1, .ref a2, .ref a3, .ref a4, .ref a5, .int 0, .int 0, .int 0, .int 0, .int 0, .long 0, .int 0, .int (-1), .int 0, .int (-1), .ref a6, .ref a7, .ref a8, .ref a9, .ref a10, .ref a11, .ref a12, .ref a13, .int 0, .int 0, .ref a14, .ref a15, .int 0, .int 0, .int 0, .ref a16, .ref a17, .int 0, .int 0, .int 0, .int 0, .int 0, .ref a18, .int 0, .int 0, .int 0]))] := by rw [← hAe]; exact hD
  have hS8 : va_S (va_A [(a0, .inr (10, [.int 0, .ref a1, .ref a2, .ref a3, .ref a4, .ref a5, .int 0, .int 0, .int 0, .int 0, .int 0, .long 0, .int 0, .int (-1), .int 0, .int (-1), .ref a6, .ref a7, .ref a8, .ref a9, .ref a10, .ref a11, .ref a12, .ref a13, .int 0, .int 0, .ref a14, .ref a15, .int 0, .int 0, .int 0, .ref a16, .ref a17, .int 0, .int 0, .int 0, .int 0, .int 0, .ref a18, .int 0, .int 0, .int 0]))] s.heap.size) s.heap H locs := by rw [← hAe]; exact hS
  have hP9 := hP.sub (ws' := [(a0, .inr (10, [.int 0, .ref a1, .ref a2, .ref a3, .ref a4, .ref a5, .int 0, .int 0, .int 0, .int 0, .int 0, .long 0, .int 0, .int (-1), .int 0, .int (-1), .ref a6, .ref a7, .ref a8, .ref a9, .ref a10, .ref a11, .ref a12, .ref a13, .int 0, .int 0, .ref a14, .ref a15, .int 0, .int 0, .int 0, .ref a16, .ref a17, .int 0, .int 0, .int 0, .int 0, .int 0, .ref a18, .int 0, .int 0, .int 0]))]) [0] rfl
  have hD9 := hD8.sub (ws' := [(a0, .inr (10, [.int 0, .ref a1, .ref a2, .ref a3, .ref a4, .ref a5, .int 0, .int 0, .int 0, .int 0, .int 0, .long 0, .int 0, .int (-1), .int 0, .int (-1), .ref a6, .ref a7, .ref a8, .ref a9, .ref a10, .ref a11, .ref a12, .ref a13, .int 0, .int 0, .ref a14, .ref a15, .int 0, .int 0, .int 0, .ref a16, .ref a17, .int 0, .int 0, .int 0, .int 0, .int 0, .ref a18, .int 0, .int 0, .int 0]))]) [0] rfl rfl
  exact W.vret hx hb hr (fun t ht hW => ⟨⟨(), rfl, trivial, by rw [ht]; exact hP9, va_K.moved hW.alike hK, hD9⟩, hS8.F ht⟩) hS8.2.2 dX10_next_307
set_option maxHeartbeats 4000000 in
set_option maxRecDepth 100000 in
theorem kX10_begins_0 (l : Launch) (D : va_G) (cB cI cJ cZ cT cR : ClassId) (a0 a1 a2 a3 a4 a5 a6 a7 a8 a9 a10 a11 a12 a13 a14 a15 a16 a17 a18 : Nat) (sz : Nat) : Met l yX10_begins (uc yX10_begins cX10_begins 1 none) (rmL 3 0 0) (va_Pc [.ref a0] (MPre D [(cB, .byte), (cI, .int), (cJ, .long), (cZ, .boolean), (cT, .object RX7), (cR, .object RX3)] [(a0, .inr (10, [.int 0, .ref a1, .ref a2, .ref a3, .ref a4, .ref a5, .int 0, .int 0, .int 0, .int 0, .int 0, .long 0, .int 0, .int 0, .int 0, .int (-1), .ref a6, .ref a7, .ref a8, .ref a9, .ref a10, .ref a11, .ref a12, .ref a13, .int 0, .int 0, .ref a14, .ref a15, .int 0, .int 0, .int 0, .ref a16, .ref a17, .int 0, .int 0, .int 0, .int 0, .int 0, .ref a18, .int 0, .int 0, .int 0]))] sz)) (va_Qv (fun (_ : Unit) => True) (MB D [(cB, .byte), (cI, .int), (cJ, .long), (cZ, .boolean), (cT, .object RX7), (cR, .object RX3)] [(a0, .inr (10, [.int 0, .ref a1, .ref a2, .ref a3, .ref a4, .ref a5, .int 0, .int 0, .int 0, .int 0, .int 0, .long 0, .int 0, .int 0, .int 0, .int (-1), .ref a6, .ref a7, .ref a8, .ref a9, .ref a10, .ref a11, .ref a12, .ref a13, .int 0, .int 0, .ref a14, .ref a15, .int 0, .int 0, .int 0, .ref a16, .ref a17, .int 0, .int 0, .int 0, .int 0, .int 0, .ref a18, .int 0, .int 0, .int 0]))] sz (fun (u : Unit) => [(a0, .inr (10, [.int 0, .ref a1, .ref a2, .ref a3, .ref a4, .ref a5, .int 0, .int 0, .int 0, .int 0, .int 0, .long 0, .int 0, .int (-1), .int 0, .int (-1), .ref a6, .ref a7, .ref a8, .ref a9, .ref a10, .ref a11, .ref a12, .ref a13, .int 0, .int 0, .ref a14, .ref a15, .int 0, .int 0, .int 0, .ref a16, .ref a17, .int 0, .int 0, .int 0, .int 0, .int 0, .ref a18, .int 0, .int 0, .int 0]))])) (va_A [(a0, .inr (10, [.int 0, .ref a1, .ref a2, .ref a3, .ref a4, .ref a5, .int 0, .int 0, .int 0, .int 0, .int 0, .long 0, .int 0, .int 0, .int 0, .int (-1), .ref a6, .ref a7, .ref a8, .ref a9, .ref a10, .ref a11, .ref a12, .ref a13, .int 0, .int 0, .ref a14, .ref a15, .int 0, .int 0, .int 0, .ref a16, .ref a17, .int 0, .int 0, .int 0, .int 0, .int 0, .ref a18, .int 0, .int 0, .int 0]))] sz)) 0 0 (va_A [(a0, .inr (10, [.int 0, .ref a1, .ref a2, .ref a3, .ref a4, .ref a5, .int 0, .int 0, .int 0, .int 0, .int 0, .long 0, .int 0, .int 0, .int 0, .int (-1), .ref a6, .ref a7, .ref a8, .ref a9, .ref a10, .ref a11, .ref a12, .ref a13, .int 0, .int 0, .ref a14, .ref a15, .int 0, .int 0, .int 0, .ref a16, .ref a17, .int 0, .int 0, .int 0, .int 0, .int 0, .ref a18, .int 0, .int 0, .int 0]))] sz) := by
  refine pm (by decide) (Nat.le_of_ble_eq_true rfl) ?_
  intro p e s m below meth c ls hx hb hr hml hown hlk hnm hts hv hl
  have hown : s.vm.findClass RX10 = some m.cls := hown
  have hl : lv_has ls 1 [(0, .ref a0)] := hl
  obtain ⟨hsz, hP, hK, hD0, hE⟩ := hv
  subst hsz
  have hD := hD0.self (sz := s.heap.size)
  obtain ⟨AA, hAe⟩ : ∃ AA, AA = va_A [(a0, .inr (10, [.int 0, .ref a1, .ref a2, .ref a3, .ref a4, .ref a5, .int 0, .int 0, .int 0, .int 0, .int 0, .long 0, .int 0, .int 0, .int 0, .int (-1), .ref a6, .ref a7, .ref a8, .ref a9, .ref a10, .ref a11, .ref a12, .ref a13, .int 0, .int 0, .ref a14, .ref a15, .int 0, .int 0, .int 0, .ref a16, .ref a17, .int 0, .int 0, .int 0, .int 0, .int 0, .ref a18, .int 0, .int 0, .int 0]))] s.heap.size := ⟨_, rfl⟩
  rw [← hAe] at hD
  have hA : ∀ q : Nat, s.heap.size ≤ q → AA q := fun q h => by rw [hAe]; exact Or.inr h
  have hS : va_S AA s.heap s.heap [] := va_S.rf
  obtain ⟨-, hAOT, hAOR, hAOI⟩ := id hE
  refine lv_aload_n hx hb dX10_begins_0 rfl (lv_at hl 0 rfl) ?_
  refine lv_iconst (v := 0) hx hb dX10_begins_1 (by decide) ?_
  refine va_put (D := D) (ci := 10) (v := .int 0) (ty := .int) (C := RX10) (T := TX10) (N := 42) hx hb hts (fun w h => uc_in w (inX10 w h)) tyX10 tyX10_ok nmX10 hown hK hP hD hS 0 rfl rfl 12 (by decide) (hts _ (uc_in _ q_f1200)) (fun _ h9 => h9) rfl (by decide +kernel) rfl rfl (Nat.le_of_ble_eq_true rfl) dX10_begins_2 (fun H locs hP hD hS => ?_)
  have hP : va_P D vwCl [(a0, .inr (10, [.int 0, .ref a1, .ref a2, .ref a3, .ref a4, .ref a5, .int 0, .int 0, .int 0, .int 0, .int 0, .long 0, .int 0, .int 0, .int 0, .int (-1), .ref a6, .ref a7, .ref a8, .ref a9, .ref a10, .ref a11, .ref a12, .ref a13, .int 0, .int 0, .ref a14, .ref a15, .int 0, .int 0, .int 0, .ref a16, .ref a17, .int 0, .int 0, .int 0, .int 0, .int 0, .ref a18, .int 0, .int 0, .int 0]))] H := hP
  have hD : va_D AA [(a0, .inr (10, [.int 0, .ref a1, .ref a2, .ref a3, .ref a4, .ref a5, .int 0, .int 0, .int 0, .int 0, .int 0, .long 0, .int 0, .int 0, .int 0, .int (-1), .ref a6, .ref a7, .ref a8, .ref a9, .ref a10, .ref a11, .ref a12, .ref a13, .int 0, .int 0, .ref a14, .ref a15, .int 0, .int 0, .int 0, .ref a16, .ref a17, .int 0, .int 0, .int 0, .int 0, .int 0, .ref a18, .int 0, .int 0, .int 0]))] := hD
  refine lv_aload_n hx hb dX10_begins_5 rfl (lv_at hl 0 rfl) ?_
  refine lv_iconst (v := (-1)) hx hb dX10_begins_6 (by decide) ?_
  refine va_put (D := D) (ci := 10) (v := .int (-1)) (ty := .int) (C := RX10) (T := TX10) (N := 42) hx hb hts (fun w h => uc_in w (inX10 w h)) tyX10 tyX10_ok nmX10 hown hK hP hD hS 0 rfl rfl 13 (by decide) (hts _ (uc_in _ q_f1201)) (fun _ h9 => h9) rfl (by decide +kernel) rfl rfl (Nat.le_of_ble_eq_true rfl) dX10_begins_7 (fun H locs hP hD hS => ?_)
  have hP : va_P D vwCl [(a0, .inr (10, [.int 0, .ref a1, .ref a2, .ref a3, .ref a4, .ref a5, .int 0, .int 0, .int 0, .int 0, .int 0, .long 0, .int 0, .int (-1), .int 0, .int (-1), .ref a6, .ref a7, .ref a8, .ref a9, .ref a10, .ref a11, .ref a12, .ref a13, .int 0, .int 0, .ref a14, .ref a15, .int 0, .int 0, .int 0, .ref a16, .ref a17, .int 0, .int 0, .int 0, .int 0, .int 0, .ref a18, .int 0, .int 0, .int 0]))] H := hP
  have hD : va_D AA [(a0, .inr (10, [.int 0, .ref a1, .ref a2, .ref a3, .ref a4, .ref a5, .int 0, .int 0, .int 0, .int 0, .int 0, .long 0, .int 0, .int (-1), .int 0, .int (-1), .ref a6, .ref a7, .ref a8, .ref a9, .ref a10, .ref a11, .ref a12, .ref a13, .int 0, .int 0, .ref a14, .ref a15, .int 0, .int 0, .int 0, .ref a16, .ref a17, .int 0, .int 0, .int 0, .int 0, .int 0, .ref a18, .int 0, .int 0, .int 0]))] := hD
  refine lv_aload_n hx hb dX10_begins_10 rfl (lv_at hl 0 rfl) ?_
  refine lv_iconst (v := 0) hx hb dX10_begins_11 (by decide) ?_
  refine va_put (D := D) (ci := 10) (v := .int 0) (ty := .int) (C := RX10) (T := TX10) (N := 42) hx hb hts (fun w h => uc_in w (inX10 w h)) tyX10 tyX10_ok nmX10 hown hK hP hD hS 0 rfl rfl 7 (by decide) (hts _ (uc_in _ q_f1195)) (fun _ h9 => h9) rfl (by decide +kernel) rfl rfl (Nat.le_of_ble_eq_true rfl) dX10_begins_12 (fun H locs hP hD hS => ?_)
  have hP : va_P D vwCl [(a0, .inr (10, [.int 0, .ref a1, .ref a2, .ref a3, .ref a4, .ref a5, .int 0, .int 0, .int 0, .int 0, .int 0, .long 0, .int 0, .int (-1), .int 0, .int (-1), .ref a6, .ref a7, .ref a8, .ref a9, .ref a10, .ref a11, .ref a12, .ref a13, .int 0, .int 0, .ref a14, .ref a15, .int 0, .int 0, .int 0, .ref a16, .ref a17, .int 0, .int 0, .int 0, .int 0, .int 0, .ref a18, .int 0, .int 0, .int 0]))] H := hP
  have hD : va_D AA [(a0, .inr (10, [.int 0, .ref a1, .ref a2, .ref a3, .ref a4, .ref a5, .int 0, .int 0, .int 0, .int 0, .int 0, .long 0, .int 0, .int (-1), .int 0, .int (-1), .ref a6, .ref a7, .ref a8, .ref a9, .ref a10, .ref a11, .ref a12, .ref a13, .int 0, .int 0, .ref a14, .ref a15, .int 0, .int 0, .int 0, .ref a16, .ref a17, .int 0, .int 0, .int 0, .int 0, .int 0, .ref a18, .int 0, .int 0, .int 0]))] := hD
  refine lv_aload_n hx hb dX10_begins_15 rfl (lv_at hl 0 rfl) ?_
  refine cvV (n := 0) (As := []) (rest := []) (wr := []) ⟨hx, hb, hml, hown, hts⟩ uc_in (kX10_next_0 l D cB cI cJ cZ cT cR a0 a1 a2 a3 a4 a5 a6 a7 a8 a9 a10 a11 a12 a13 a14 a15 a16 a17 a18 H.size) q_m1370 q_n1372 q_p55 q_i11 q_c1373 (by decide +kernel) ⟨(Nat.le_of_ble_eq_true rfl), (Nat.le_of_ble_eq_true rfl)⟩ ⟨(Nat.le_of_ble_eq_true rfl), (Nat.le_of_ble_eq_true rfl)⟩ hE hK hP hD hS hA [0] [] rfl rfl rfl rfl (by decide) 10 0 rfl rfl rfl hl.1 rfl (Nat.le_of_ble_eq_true rfl) dX10_begins_16 (fun u H locs hpo hP hD hS => ?_)
  have hP : va_P D vwCl [(a0, .inr (10, [.int 0, .ref a1, .ref a2, .ref a3, .ref a4, .ref a5, .int 0, .int 0, .int 0, .int 0, .int 0, .long 0, .int 0, .int (-1), .int 0, .int (-1), .ref a6, .ref a7, .ref a8, .ref a9, .ref a10, .ref a11, .ref a12, .ref a13, .int 0, .int 0, .ref a14, .ref a15, .int 0, .int 0, .int 0, .ref a16, .ref a17, .int 0, .int 0, .int 0, .int 0, .int 0, .ref a18, .int 0, .int 0, .int 0]))] H := hP
  have hD : va_D AA [(a0, .inr (10, [.int 0, .ref a1, .ref a2, .ref a3, .ref a4, .ref a5, .int 0, .int 0, .int 0, .int 0, .int 0, .long 0, .int 0, .int (-1), .int 0, .int (-1), .ref a6, .ref a7, .ref a8, .ref a9, .ref a10, .ref a11, .ref a12, .ref a13, .int 0, .int 0, .ref a14, .ref a15, .int 0, .int 0, .int 0, .ref a16, .ref a17, .int 0, .int 0, .int 0, .int 0, .int 0, .ref a18, .int 0, .int 0, .int 0]))] := hD
  refine W.cs (cells' := 0) (slots' := 0) rfl rfl ?_
  have hD8 : va_D (va_A [(a0, .inr (10, [.int 0, .ref a1, .ref a2, .ref a3, .ref a4, .ref a5, .int 0, .int 0, .int 0, .int 0, .int 0, .long 0, .int 0, .int 0, .int 0, .int (-1), .ref a6, .ref a7, .ref a8, .ref a9, .ref a10, .ref a11, .ref a12, .ref a13, .int 0, .int 0, .ref a14, .ref a15, .int 0, .int 0, .int 0, .ref a16, .ref a17, .int 0, .int 0, .int 0, .int 0, .int 0, .ref a18, .int 0, .int 0, .int 0]))] s.heap.size) [(a0, .inr (10, [.int 0, .ref a1, .ref a2, .ref a3, .ref a4, .ref a5, .int 0, .int 0, .int 0, .int 0, .int 0, .long 0, .int 0, .int (-1), .int 0, .int (-1), .ref a6, .ref a7, .ref a8, .ref a9, .ref a10, .ref a11, .ref a12, .ref a13, .int 0, .int 0, .ref a14, .ref a15, .int 0, .int 0, .int 0, .ref a16, .ref a17, .int 0, .int 0, .int 0, .int 0, .int 0, .ref a18, .int 0, .int 0, .int 0]))] := by rw [← hAe]; exact hD
  have hS8 : va_S (va_A [(a0, .inr (10, [.int 0, .ref a1, .ref a2, .ref a3, .ref a4, .ref a5, .int 0, .int 0, .int 0, .int 0, .int 0, .long 0, .int 0, .int 0, .int 0, .int (-1), .ref a6, .ref a7, .ref a8, .ref a9, .ref a10, .ref a11, .ref a12, .ref a13, .int 0, .int 0, .ref a14, .ref a15, .int 0, .int 0, .int 0, .ref a16, .ref a17, .int 0, .int 0, .int 0, .int 0, .int 0, .ref a18, .int 0, .int 0, .int 0]))] s.heap.size) s.heap H locs := by rw [← hAe]; exact hS
  have hP9 := hP.sub (ws' := [(a0, .inr (10, [.int 0, .ref a1, .ref a2, .ref a3, .ref a4, .ref a5, .int 0, .int 0, .int 0, .int 0, .int 0, .long 0, .int 0, .int (-1), .int 0, .int (-1), .ref a6, .ref a7, .ref a8, .ref a9, .ref a10, .ref a11, .ref a12, .ref a13, .int 0, .int 0, .ref a14, .ref a15, .int 0, .int 0, .int 0, .ref a16, .ref a17, .int 0, .int 0, .int 0, .int 0, .int 0, .ref a18, .int 0, .int 0, .int 0]))]) [0] rfl
  have hD9 := hD8.sub (ws' := [(a0, .inr (10, [.int 0, .ref a1, .ref a2, .ref a3, .ref a4, .ref a5, .int 0, .int 0, .int 0, .int 0, .int 0, .long 0, .int 0, .int (-1), .int 0, .int (-1), .ref a6, .ref a7, .ref a8, .ref a9, .ref a10, .ref a11, .ref a12, .ref a13, .int 0, .int 0, .ref a14, .ref a15, .int 0, .int 0, .int 0, .ref a16, .ref a17, .int 0, .int 0, .int 0, .int 0, .int 0, .ref a18, .int 0, .int 0, .int 0]))]) [0] rfl rfl
  exact W.vret hx hb hr (fun t ht hW => ⟨⟨(), rfl, trivial, by rw [ht]; exact hP9, va_K.moved hW.alike hK, hD9⟩, hS8.F ht⟩) hS8.2.2 dX10_begins_19
set_option maxHeartbeats 4000000 in
set_option maxRecDepth 100000 in
theorem kX10_isGood_0 (l : Launch) (D : va_G) (cB cI cJ cZ cT cR : ClassId) (a0 a1 a2 a3 a4 a5 a6 a7 a8 a9 a10 a11 a12 a13 a14 a15 a16 a17 a18 : Nat) : Met l yX10_isGood (uc yX10_isGood cX10_isGood 1 (some .boolean)) (rmL 1 0 0) (va_Pc [.ref a0] (RPre D [(cB, .byte), (cI, .int), (cJ, .long), (cZ, .boolean), (cT, .object RX7), (cR, .object RX3)] [(a0, .inr (10, [.int 0, .ref a1, .ref a2, .ref a3, .ref a4, .ref a5, .int 0, .int 0, .int 0, .int 0, .int 0, .long 0, .int 0, .int (-1), .int 0, .int (-1), .ref a6, .ref a7, .ref a8, .ref a9, .ref a10, .ref a11, .ref a12, .ref a13, .int 0, .int 0, .ref a14, .ref a15, .int 0, .int 0, .int 0, .ref a16, .ref a17, .int 0, .int 0, .int 0, .int 0, .int 0, .ref a18, .int 0, .int 0, .int 0]))])) (QcRead 1) 0 0 (fun _ => False) := by
  refine pm (by decide) (Nat.le_of_ble_eq_true rfl) ?_
  intro p e s m below meth c ls hx hb hr hml hown hlk hnm hts hv hl
  have hown : s.vm.findClass RX10 = some m.cls := hown
  have hl : lv_has ls 1 [(0, .ref a0)] := hl
  obtain ⟨hP, hK⟩ := hv
  refine lv_aload_n hx hb dX10_isGood_0 rfl (lv_at hl 0 rfl) ?_
  refine va_get (D := D) (ci := 10) (v := .int 0) (C := RX10) (T := TX10) (N := 42) hx hb hts (fun w h => uc_in w (inX10 w h)) hown hK hP 0 rfl rfl 12 (by decide) (hts _ (uc_in _ q_f1200)) (fun _ h9 => h9) rfl dX10_isGood_1 ?_
  refine lv_if_ne (tgt := 11) hx hb dX10_isGood_4 (by decide) (fun c9 => absurd (by decide) c9) (fun _ => ?_)
  refine lv_iconst (v := 1) hx hb dX10_isGood_7 (by decide) ?_
  refine lv_goto (tgt := 12) hx hb dX10_isGood_8 (by decide) ?_
  exact W.zret hx hb hr rfl (fun t ht _ => ⟨rfl, ht⟩) (fun _ h => by cases h) dX10_isGood_12
set_option maxHeartbeats 4000000 in
set_option maxRecDepth 100000 in
theorem kX10_isOver_0 (l : Launch) (D : va_G) (cB cI cJ cZ cT cR : ClassId) (a0 a1 a2 a3 a4 a5 a6 a7 a8 a9 a10 a11 a12 a13 a14 a15 a16 a17 a18 : Nat) (sz : Nat) : Met l yX10_isOver (uc yX10_isOver cX10_isOver 1 none) (rmL 1 0 0) (va_Pc [.ref a0] (MPre D [(cB, .byte), (cI, .int), (cJ, .long), (cZ, .boolean), (cT, .object RX7), (cR, .object RX3)] [(a0, .inr (10, [.int 0, .ref a1, .ref a2, .ref a3, .ref a4, .ref a5, .int 0, .int 0, .int 0, .int 0, .int 0, .long 0, .int 0, .int (-1), .int 0, .int (-1), .ref a6, .ref a7, .ref a8, .ref a9, .ref a10, .ref a11, .ref a12, .ref a13, .int 0, .int 0, .ref a14, .ref a15, .int 0, .int 0, .int 0, .ref a16, .ref a17, .int 0, .int 0, .int 0, .int 0, .int 0, .ref a18, .int 0, .int 0, .int 0]))] sz)) (va_Qv (fun (_ : Unit) => True) (MB D [(cB, .byte), (cI, .int), (cJ, .long), (cZ, .boolean), (cT, .object RX7), (cR, .object RX3)] [(a0, .inr (10, [.int 0, .ref a1, .ref a2, .ref a3, .ref a4, .ref a5, .int 0, .int 0, .int 0, .int 0, .int 0, .long 0, .int 0, .int (-1), .int 0, .int (-1), .ref a6, .ref a7, .ref a8, .ref a9, .ref a10, .ref a11, .ref a12, .ref a13, .int 0, .int 0, .ref a14, .ref a15, .int 0, .int 0, .int 0, .ref a16, .ref a17, .int 0, .int 0, .int 0, .int 0, .int 0, .ref a18, .int 0, .int 0, .int 0]))] sz (fun (u : Unit) => [(a0, .inr (10, [.int 0, .ref a1, .ref a2, .ref a3, .ref a4, .ref a5, .int 0, .int 0, .int 0, .int 0, .int 0, .long 0, .int 0, .int (-1), .int 0, .int (-1), .ref a6, .ref a7, .ref a8, .ref a9, .ref a10, .ref a11, .ref a12, .ref a13, .int 0, .int 0, .ref a14, .ref a15, .int 0, .int 0, .int 0, .ref a16, .ref a17, .int 0, .int 0, .int 0, .int 0, .int 0, .ref a18, .int 0, .int 0, .int 0]))])) (va_A [(a0, .inr (10, [.int 0, .ref a1, .ref a2, .ref a3, .ref a4, .ref a5, .int 0, .int 0, .int 0, .int 0, .int 0, .long 0, .int 0, .int (-1), .int 0, .int (-1), .ref a6, .ref a7, .ref a8, .ref a9, .ref a10, .ref a11, .ref a12, .ref a13, .int 0, .int 0, .ref a14, .ref a15, .int 0, .int 0, .int 0, .ref a16, .ref a17, .int 0, .int 0, .int 0, .int 0, .int 0, .ref a18, .int 0, .int 0, .int 0]))] sz)) 0 0 (va_A [(a0, .inr (10, [.int 0, .ref a1, .ref a2, .ref a3, .ref a4, .ref a5, .int 0, .int 0, .int 0, .int 0, .int 0, .long 0, .int 0, .int (-1), .int 0, .int (-1), .ref a6, .ref a7, .ref a8, .ref a9, .ref a10, .ref a11, .ref a12, .ref a13, .int 0, .int 0, .ref a14, .ref a15, .int 0, .int 0, .int 0, .ref a16, .ref a17, .int 0, .int 0, .int 0, .int 0, .int 0, .ref a18, .int 0, .int 0, .int 0]))] sz) := by
  refine pm (by decide) (Nat.le_of_ble_eq_true rfl) ?_
  intro p e s m below meth c ls hx hb hr hml hown hlk hnm hts hv hl
  have hown : s.vm.findClass RX10 = some m.cls := hown
  have hl : lv_has ls 1 [(0, .ref a0)] := hl
  obtain ⟨hsz, hP, hK, hD0, hE⟩ := hv
  subst hsz
  have hD := hD0.self (sz := s.heap.size)
  obtain ⟨AA, hAe⟩ : ∃ AA, AA = va_A [(a0, .inr (10, [.int 0, .ref a1, .ref a2, .ref a3, .ref a4, .ref a5, .int 0, .int 0, .int 0, .int 0, .int 0, .long 0, .int 0, .int (-1), .int 0, .int (-1), .ref a6, .ref a7, .ref a8, .ref a9, .ref a10, .ref a11, .ref a12, .ref a13, .int 0, .int 0, .ref a14, .ref a15, .int 0, .int 0, .int 0, .ref a16, .ref a17, .int 0, .int 0, .int 0, .int 0, .int 0, .ref a18, .int 0, .int 0, .int 0]))] s.heap.size := ⟨_, rfl⟩
  rw [← hAe] at hD
  have hA : ∀ q : Nat, s.heap.size ≤ q → AA q := fun q h => by rw [hAe]; exact Or.inr h
  have hS : va_S AA s.heap s.heap [] := va_S.rf
  obtain ⟨-, hAOT, hAOR, hAOI⟩ := id hE
  refine lv_aload_n hx hb dX10_isOver_0 rfl (lv_at hl 0 rfl) ?_
  refine lv_iconst (v := 0) hx hb dX10_isOver_1 (by decide) ?_
  refine va_put (D := D) (ci := 10) (v := .int 0) (ty := .int) (C := RX10) (T := TX10) (N := 42) hx hb hts (fun w h => uc_in w (inX10 w h)) tyX10 tyX10_ok nmX10 hown hK hP hD hS 0 rfl rfl 6 (by decide) (hts _ (uc_in _ q_f1194)) (fun _ h9 => h9) rfl (by decide +kernel) rfl rfl (Nat.le_of_ble_eq_true rfl) dX10_isOver_2 (fun H locs hP hD hS => ?_)
  have hP : va_P D vwCl [(a0, .inr (10, [.int 0, .ref a1, .ref a2, .ref a3, .ref a4, .ref a5, .int 0, .int 0, .int 0, .int 0, .int 0, .long 0, .int 0, .int (-1), .int 0, .int (-1), .ref a6, .ref a7, .ref a8, .ref a9, .ref a10, .ref a11, .ref a12, .ref a13, .int 0, .int 0, .ref a14, .ref a15, .int 0, .int 0, .int 0, .ref a16, .ref a17, .int 0, .int 0, .int 0, .int 0, .int 0, .ref a18, .int 0, .int 0, .int 0]))] H := hP
  have hD : va_D AA [(a0, .inr (10, [.int 0, .ref a1, .ref a2, .ref a3, .ref a4, .ref a5, .int 0, .int 0, .int 0, .int 0, .int 0, .long 0, .int 0, .int (-1), .int 0, .int (-1), .ref a6, .ref a7, .ref a8, .ref a9, .ref a10, .ref a11, .ref a12, .ref a13, .int 0, .int 0, .ref a14, .ref a15, .int 0, .int 0, .int 0, .ref a16, .ref a17, .int 0, .int 0, .int 0, .int 0, .int 0, .ref a18, .int 0, .int 0, .int 0]))] := hD
  refine lv_aload_n hx hb dX10_isOver_5 rfl (lv_at hl 0 rfl) ?_
  refine lv_aload_n hx hb dX10_isOver_6 rfl (lv_at hl 0 rfl) ?_
  refine va_get (D := D) (ci := 10) (v := .int 0) (C := RX10) (T := TX10) (N := 42) hx hb hts (fun w h => uc_in w (inX10 w h)) hown hK hP 0 rfl rfl 12 (by decide) (hts _ (uc_in _ q_f1200)) (fun _ h9 => h9) rfl dX10_isOver_7 ?_
  refine va_put (D := D) (ci := 10) (v := .int 0) (ty := .int) (C := RX10) (T := TX10) (N := 42) hx hb hts (fun w h => uc_in w (inX10 w h)) tyX10 tyX10_ok nmX10 hown hK hP hD hS 0 rfl rfl 14 (by decide) (hts _ (uc_in _ q_f1202)) (fun _ h9 => h9) rfl (by decide +kernel) rfl rfl (Nat.le_of_ble_eq_true rfl) dX10_isOver_10 (fun H locs hP hD hS => ?_)
  have hP : va_P D vwCl [(a0, .inr (10, [.int 0, .ref a1, .ref a2, .ref a3, .ref a4, .ref a5, .int 0, .int 0, .int 0, .int 0, .int 0, .long 0, .int 0, .int (-1), .int 0, .int (-1), .ref a6, .ref a7, .ref a8, .ref a9, .ref a10, .ref a11, .ref a12, .ref a13, .int 0, .int 0, .ref a14, .ref a15, .int 0, .int 0, .int 0, .ref a16, .ref a17, .int 0, .int 0, .int 0, .int 0, .int 0, .ref a18, .int 0, .int 0, .int 0]))] H := hP
  have hD : va_D AA [(a0, .inr (10, [.int 0, .ref a1, .ref a2, .ref a3, .ref a4, .ref a5, .int 0, .int 0, .int 0, .int 0, .int 0, .long 0, .int 0, .int (-1), .int 0, .int (-1), .ref a6, .ref a7, .ref a8, .ref a9, .ref a10, .ref a11, .ref a12, .ref a13, .int 0, .int 0, .ref a14, .ref a15, .int 0, .int 0, .int 0, .ref a16, .ref a17, .int 0, .int 0, .int 0, .int 0, .int 0, .ref a18, .int 0, .int 0, .int 0]))] := hD
  refine lv_aload_n hx hb dX10_isOver_13 rfl (lv_at hl 0 rfl) ?_
  refine lv_aload_n hx hb dX10_isOver_14 rfl (lv_at hl 0 rfl) ?_
  refine va_get (D := D) (ci := 10) (v := .int 0) (C := RX10) (T := TX10) (N := 42) hx hb hts (fun w h => uc_in w (inX10 w h)) hown hK hP 0 rfl rfl 12 (by decide) (hts _ (uc_in _ q_f1200)) (fun _ h9 => h9) rfl dX10_isOver_15 ?_
  refine lv_if_ne (tgt := 25) hx hb dX10_isOver_18 (by decide) (fun c9 => absurd (by decide) c9) (fun _ => ?_)
  refine lv_iconst (v := (-1)) hx hb dX10_isOver_21 (by decide) ?_
  refine lv_goto (tgt := 29) hx hb dX10_isOver_22 (by decide) ?_
  refine va_put (D := D) (ci := 10) (v := .int (-1)) (ty := .int) (C := RX10) (T := TX10) (N := 42) hx hb hts (fun w h => uc_in w (inX10 w h)) tyX10 tyX10_ok nmX10 hown hK hP hD hS 0 rfl rfl 15 (by decide) (hts _ (uc_in _ q_f1203)) (fun _ h9 => h9) rfl (by decide +kernel) rfl rfl (Nat.le_of_ble_eq_true rfl) dX10_isOver_29 (fun H locs hP hD hS => ?_)
  have hP : va_P D vwCl [(a0, .inr (10, [.int 0, .ref a1, .ref a2, .ref a3, .ref a4, .ref a5, .int 0, .int 0, .int 0, .int 0, .int 0, .long 0, .int 0, .int (-1), .int 0, .int (-1), .ref a6, .ref a7, .ref a8, .ref a9, .ref a10, .ref a11, .ref a12, .ref a13, .int 0, .int 0, .ref a14, .ref a15, .int 0, .int 0, .int 0, .ref a16, .ref a17, .int 0, .int 0, .int 0, .int 0, .int 0, .ref a18, .int 0, .int 0, .int 0]))] H := hP
  have hD : va_D AA [(a0, .inr (10, [.int 0, .ref a1, .ref a2, .ref a3, .ref a4, .ref a5, .int 0, .int 0, .int 0, .int 0, .int 0, .long 0, .int 0, .int (-1), .int 0, .int (-1), .ref a6, .ref a7, .ref a8, .ref a9, .ref a10, .ref a11, .ref a12, .ref a13, .int 0, .int 0, .ref a14, .ref a15, .int 0, .int 0, .int 0, .ref a16, .ref a17, .int 0, .int 0, .int 0, .int 0, .int 0, .ref a18, .int 0, .int 0, .int 0]))] := hD
  subst hAe
  have hP9 := hP.sub (ws' := [(a0, .inr (10, [.int 0, .ref a1, .ref a2, .ref a3, .ref a4, .ref a5, .int 0, .int 0, .int 0, .int 0, .int 0, .long 0, .int 0, .int (-1), .int 0, .int (-1), .ref a6, .ref a7, .ref a8, .ref a9, .ref a10, .ref a11, .ref a12, .ref a13, .int 0, .int 0, .ref a14, .ref a15, .int 0, .int 0, .int 0, .ref a16, .ref a17, .int 0, .int 0, .int 0, .int 0, .int 0, .ref a18, .int 0, .int 0, .int 0]))]) [0] rfl
  have hD9 := hD.sub (ws' := [(a0, .inr (10, [.int 0, .ref a1, .ref a2, .ref a3, .ref a4, .ref a5, .int 0, .int 0, .int 0, .int 0, .int 0, .long 0, .int 0, .int (-1), .int 0, .int (-1), .ref a6, .ref a7, .ref a8, .ref a9, .ref a10, .ref a11, .ref a12, .ref a13, .int 0, .int 0, .ref a14, .ref a15, .int 0, .int 0, .int 0, .ref a16, .ref a17, .int 0, .int 0, .int 0, .int 0, .int 0, .ref a18, .int 0, .int 0, .int 0]))]) [0] rfl rfl
  exact W.vret hx hb hr (fun t ht hW => ⟨⟨(), rfl, trivial, by rw [ht]; exact hP9, va_K.moved hW.alike hK, hD9⟩, hS.F ht⟩) hS.2.2 dX10_isOver_32
set_option maxHeartbeats 4000000 in
set_option maxRecDepth 100000 in
theorem lp_X10_copyRow_1 {p : Program} {l : Launch} {e : Env} {R : Room} {s : State} {m : MethodId} {args : Array Value} {below : List Frame} {meth : Method} {c : Code} {cells slots : Nat} {Q : State → Prop} {D : va_G} {AA : Nat → Prop} {H0 : Heap} {Ts : List Cond} {cB cI cJ cZ cT cR : ClassId} {a0 : Nat} (hx : p.tables.exec = Jvm.exec) (hb : c.code = cX10_copyRow) (hT : ∀ w ∈ uw, w ∈ Ts) (hts : ∀ w ∈ Ts, w.before args s = true) (hown : s.vm.findClass RX10 = some m.cls) (hK : va_K D vwCl [(cB, .byte), (cI, .int), (cJ, .long), (cZ, .boolean), (cT, .object RX7), (cR, .object RX3)] s)
    (kx : ∀ (H : Heap) (locs : List Loc) (ls : Array Slot), va_P D vwCl [(a0, .inl (cI, 5, .inl (fun _ => 0)))] H → va_D AA [(a0, .inl (cI, 5, .inl (fun _ => 0)))] → va_S AA H0 H locs → lv_has ls 5 [(4, .int 1), (0, .ref a0), (1, .int 1), (2, .int 4), (3, .int 0)] → W p l e R s m args below meth c H locs cells slots Q (F0 m 31 ls [])) :
    ∀ (j k : Nat), k + j = 1 → ∀ (H : Heap) (locs : List Loc) (ls : Array Slot), va_P D vwCl [(a0, .inl (cI, 5, .inl (fun _ => 0)))] H → va_D AA [(a0, .inl (cI, 5, .inl (fun _ => 0)))] → va_S AA H0 H locs → lv_has ls 5 [(4, .int (nI k)), (0, .ref a0), (1, .int 1), (2, .int 4), (3, .int 0)] → W p l e R s m args below meth c H locs cells slots Q (F0 m 3 ls []) := by
  intro j
  induction j with
  | zero =>
    intro k hk H locs ls hP hD hS hl
    refine lv_iload hx hb dX10_copyRow_3 (lv_at hl 0 rfl) ?_
    refine lv_iload_n hx hb dX10_copyRow_5 rfl (lv_at hl 2 rfl) ?_
    refine lv_icmp_ge (tgt := 31) hx hb dX10_copyRow_6 (by decide) (fun _ => ?_) (fun c9 => absurd (show (1 : Int32) ≤ nI k from nI_le (a := 1) (by omega) (by omega)) c9)
    have ek : k = 1 := by omega
    subst ek
    exact kx H locs ls hP hD hS hl
  | succ j ih =>
    intro k hk H locs ls hP hD hS hl
    refine lv_iload hx hb dX10_copyRow_3 (lv_at hl 0 rfl) ?_
    refine lv_iload_n hx hb dX10_copyRow_5 rfl (lv_at hl 2 rfl) ?_
    refine lv_icmp_ge (tgt := 31) hx hb dX10_copyRow_6 (by decide) (fun c9 => absurd c9 (show ¬ (1 : Int32) ≤ nI k from nI_ge (b := 1) (by omega) (by omega))) (fun _ => ?_)
    refine lv_aload_n hx hb dX10_copyRow_9 rfl (lv_at hl 1 rfl) ?_
    refine lv_iload_n hx hb dX10_copyRow_10 rfl (lv_at hl 2 rfl) ?_
    refine lv_iload_n hx hb dX10_copyRow_11 rfl (lv_at hl 4 rfl) ?_
    refine lv_imul hx hb dX10_copyRow_12 ?_
    refine pv_i (v := 0) (by decide) ?_
    refine lv_iload hx hb dX10_copyRow_13 (lv_at hl 0 rfl) ?_
    refine lv_iadd hx hb dX10_copyRow_15 ?_
    refine pv_i (v := (nI (0 + k))) (nI_add 0 k) ?_
    refine lv_aload_n hx hb dX10_copyRow_16 rfl (lv_at hl 1 rfl) ?_
    refine lv_iload_n hx hb dX10_copyRow_17 rfl (lv_at hl 2 rfl) ?_
    refine lv_iload_n hx hb dX10_copyRow_18 rfl (lv_at hl 3 rfl) ?_
    refine lv_imul hx hb dX10_copyRow_19 ?_
    refine pv_i (v := 4) (by decide) ?_
    refine lv_iload hx hb dX10_copyRow_20 (lv_at hl 0 rfl) ?_
    refine lv_iadd hx hb dX10_copyRow_22 ?_
    refine pv_i (v := (nI (4 + k))) (nI_add 4 k) ?_
    refine va_iald hx hb hK hP 0 1 rfl rfl (vp_in_nI (by omega) (by decide)) dX10_copyRow_23 ?_
    refine pv_i (v := 0) rfl ?_
    refine va_iast hx hb hK hP hD hS 0 1 rfl rfl (vp_in_nI (by omega) (by decide)) dX10_copyRow_24 (fun H locs hP hD hS => ?_)
    rw [upd0] at hP hD
    have hP : va_P D vwCl [(a0, .inl (cI, 5, .inl (fun _ => 0)))] H := hP
    have hD : va_D AA [(a0, .inl (cI, 5, .inl (fun _ => 0)))] := hD
    refine lv_iinc (v := (nI (k + 1))) (lv' := [(4, .int (nI (k + 1))), (0, .ref a0), (1, .int 1), (2, .int 4), (3, .int 0)]) hx hb dX10_copyRow_25 hl (k := 0) rfl (nI_1 k) (by decide) rfl (fun ls hl => ?_)
    refine lv_goto (tgt := 3) hx hb dX10_copyRow_28 (by decide) ?_
    exact ih (k + 1) (by omega) H locs ls hP hD hS (lv_sub hl [0, 1, 2, 3, 4] rfl)
set_option maxHeartbeats 4000000 in
set_option maxRecDepth 100000 in
theorem kX10_copyRow_0 (l : Launch) (D : va_G) (cB cI cJ cZ cT cR : ClassId) (a0 : Nat) (sz : Nat) : Met l yX10_copyRow (uc yX10_copyRow cX10_copyRow 5 none) (rmL 1 0 0) (va_Pc [.ref a0, .int 1, .int 4, .int 0] (MPre D [(cB, .byte), (cI, .int), (cJ, .long), (cZ, .boolean), (cT, .object RX7), (cR, .object RX3)] [(a0, .inl (cI, 5, .inl (fun _ => 0)))] sz)) (va_Qv (fun (_ : Unit) => True) (MB D [(cB, .byte), (cI, .int), (cJ, .long), (cZ, .boolean), (cT, .object RX7), (cR, .object RX3)] [(a0, .inl (cI, 5, .inl (fun _ => 0)))] sz (fun (u : Unit) => [(a0, .inl (cI, 5, .inl (fun _ => 0)))])) (va_A [(a0, .inl (cI, 5, .inl (fun _ => 0)))] sz)) 0 0 (va_A [(a0, .inl (cI, 5, .inl (fun _ => 0)))] sz) := by
  refine pm (by decide) (Nat.le_of_ble_eq_true rfl) ?_
  intro p e s m below meth c ls hx hb hr hml hown hlk hnm hts hv hl
  have hown : s.vm.findClass RX10 = some m.cls := hown
  have hl : lv_has ls 5 [(0, .ref a0), (1, .int 1), (2, .int 4), (3, .int 0)] := hl
  obtain ⟨hsz, hP, hK, hD0, hE⟩ := hv
  subst hsz
  have hD := hD0.self (sz := s.heap.size)
  obtain ⟨AA, hAe⟩ : ∃ AA, AA = va_A [(a0, .inl (cI, 5, .inl (fun _ => 0)))] s.heap.size := ⟨_, rfl⟩
  rw [← hAe] at hD
  have hA : ∀ q : Nat, s.heap.size ≤ q → AA q := fun q h => by rw [hAe]; exact Or.inr h
  have hS : va_S AA s.heap s.heap [] := va_S.rf
  obtain ⟨-, hAOT, hAOR, hAOI⟩ := id hE
  refine lv_iconst (v := 0) hx hb dX10_copyRow_0 (by decide) ?_
  refine lv_istore (lv' := [(4, .int 0), (0, .ref a0), (1, .int 1), (2, .int 4), (3, .int 0)]) hx hb dX10_copyRow_1 hl (by decide) rfl (fun ls hl => ?_)
  refine lp_X10_copyRow_1 hx hb uc_in hts hown hK (fun H locs ls hP hD hS hl => ?_) 1 0 (by omega) _ _ ls hP hD hS hl
  have hP : va_P D vwCl [(a0, .inl (cI, 5, .inl (fun _ => 0)))] H := hP
  have hD : va_D AA [(a0, .inl (cI, 5, .inl (fun _ => 0)))] := hD
  subst hAe
  have hP9 := hP.sub (ws' := [(a0, .inl (cI, 5, .inl (fun _ => 0)))]) [0] rfl
  have hD9 := hD.sub (ws' := [(a0, .inl (cI, 5, .inl (fun _ => 0)))]) [0] rfl rfl
  exact W.vret hx hb hr (fun t ht hW => ⟨⟨(), rfl, trivial, by rw [ht]; exact hP9, va_K.moved hW.alike hK, hD9⟩, hS.F ht⟩) hS.2.2 dX10_copyRow_31
set_option maxHeartbeats 4000000 in
set_option maxRecDepth 100000 in
theorem lp_X10_copyRow_2 {p : Program} {l : Launch} {e : Env} {R : Room} {s : State} {m : MethodId} {args : Array Value} {below : List Frame} {meth : Method} {c : Code} {cells slots : Nat} {Q : State → Prop} {D : va_G} {AA : Nat → Prop} {H0 : Heap} {Ts : List Cond} {cB cI cJ cZ cT cR : ClassId} {a0 : Nat} (hx : p.tables.exec = Jvm.exec) (hb : c.code = cX10_copyRow) (hT : ∀ w ∈ uw, w ∈ Ts) (hts : ∀ w ∈ Ts, w.before args s = true) (hown : s.vm.findClass RX10 = some m.cls) (hK : va_K D vwCl [(cB, .byte), (cI, .int), (cJ, .long), (cZ, .boolean), (cT, .object RX7), (cR, .object RX3)] s)
    (kx : ∀ (H : Heap) (locs : List Loc) (ls : Array Slot), va_P D vwCl [(a0, .inl (cI, 30, .inl (fun _ => 0)))] H → va_D AA [(a0, .inl (cI, 30, .inl (fun _ => 0)))] → va_S AA H0 H locs → lv_has ls 5 [(4, .int 6), (0, .ref a0), (1, .int 6), (2, .int 4), (3, .int 0)] → W p l e R s m args below meth c H locs cells slots Q (F0 m 31 ls [])) :
    ∀ (j k : Nat), k + j = 6 → ∀ (H : Heap) (locs : List Loc) (ls : Array Slot), va_P D vwCl [(a0, .inl (cI, 30, .inl (fun _ => 0)))] H → va_D AA [(a0, .inl (cI, 30, .inl (fun _ => 0)))] → va_S AA H0 H locs → lv_has ls 5 [(4, .int (nI k)), (0, .ref a0), (1, .int 6), (2, .int 4), (3, .int 0)] → W p l e R s m args below meth c H locs cells slots Q (F0 m 3 ls []) := by
  intro j
  induction j with
  | zero =>
    intro k hk H locs ls hP hD hS hl
    refine lv_iload hx hb dX10_copyRow_3 (lv_at hl 0 rfl) ?_
    refine lv_iload_n hx hb dX10_copyRow_5 rfl (lv_at hl 2 rfl) ?_
    refine lv_icmp_ge (tgt := 31) hx hb dX10_copyRow_6 (by decide) (fun _ => ?_) (fun c9 => absurd (show (6 : Int32) ≤ nI k from nI_le (a := 6) (by omega) (by omega)) c9)
    have ek : k = 6 := by omega
    subst ek
    exact kx H locs ls hP hD hS hl
  | succ j ih =>
    intro k hk H locs ls hP hD hS hl
    refine lv_iload hx hb dX10_copyRow_3 (lv_at hl 0 rfl) ?_
    refine lv_iload_n hx hb dX10_copyRow_5 rfl (lv_at hl 2 rfl) ?_
    refine lv_icmp_ge (tgt := 31) hx hb dX10_copyRow_6 (by decide) (fun c9 => absurd c9 (show ¬ (6 : Int32) ≤ nI k from nI_ge (b := 6) (by omega) (by omega))) (fun _ => ?_)
    refine lv_aload_n hx hb dX10_copyRow_9 rfl (lv_at hl 1 rfl) ?_
    refine lv_iload_n hx hb dX10_copyRow_10 rfl (lv_at hl 2 rfl) ?_
    refine lv_iload_n hx hb dX10_copyRow_11 rfl (lv_at hl 4 rfl) ?_
    refine lv_imul hx hb dX10_copyRow_12 ?_
    refine pv_i (v := 0) (by decide) ?_
    refine lv_iload hx hb dX10_copyRow_13 (lv_at hl 0 rfl) ?_
    refine lv_iadd hx hb dX10_copyRow_15 ?_
    refine pv_i (v := (nI (0 + k))) (nI_add 0 k) ?_
    refine lv_aload_n hx hb dX10_copyRow_16 rfl (lv_at hl 1 rfl) ?_
    refine lv_iload_n hx hb dX10_copyRow_17 rfl (lv_at hl 2 rfl) ?_
    refine lv_iload_n hx hb dX10_copyRow_18 rfl (lv_at hl 3 rfl) ?_
    refine lv_imul hx hb dX10_copyRow_19 ?_
    refine pv_i (v := 24) (by decide) ?_
    refine lv_iload hx hb dX10_copyRow_20 (lv_at hl 0 rfl) ?_
    refine lv_iadd hx hb dX10_copyRow_22 ?_
    refine pv_i (v := (nI (24 + k))) (nI_add 24 k) ?_
    refine va_iald hx hb hK hP 0 1 rfl rfl (vp_in_nI (by omega) (by decide)) dX10_copyRow_23 ?_
    refine pv_i (v := 0) rfl ?_
    refine va_iast hx hb hK hP hD hS 0 1 rfl rfl (vp_in_nI (by omega) (by decide)) dX10_copyRow_24 (fun H locs hP hD hS => ?_)
    rw [upd0] at hP hD
    have hP : va_P D vwCl [(a0, .inl (cI, 30, .inl (fun _ => 0)))] H := hP
    have hD : va_D AA [(a0, .inl (cI, 30, .inl (fun _ => 0)))] := hD
    refine lv_iinc (v := (nI (k + 1))) (lv' := [(4, .int (nI (k + 1))), (0, .ref a0), (1, .int 6), (2, .int 4), (3, .int 0)]) hx hb dX10_copyRow_25 hl (k := 0) rfl (nI_1 k) (by decide) rfl (fun ls hl => ?_)
    refine lv_goto (tgt := 3) hx hb dX10_copyRow_28 (by decide) ?_
    exact ih (k + 1) (by omega) H locs ls hP hD hS (lv_sub hl [0, 1, 2, 3, 4] rfl)
set_option maxHeartbeats 4000000 in
set_option maxRecDepth 100000 in
theorem kX10_copyRow_1 (l : Launch) (D : va_G) (cB cI cJ cZ cT cR : ClassId) (a0 : Nat) (sz : Nat) : Met l yX10_copyRow (uc yX10_copyRow cX10_copyRow 5 none) (rmL 1 0 0) (va_Pc [.ref a0, .int 6, .int 4, .int 0] (MPre D [(cB, .byte), (cI, .int), (cJ, .long), (cZ, .boolean), (cT, .object RX7), (cR, .object RX3)] [(a0, .inl (cI, 30, .inl (fun _ => 0)))] sz)) (va_Qv (fun (_ : Unit) => True) (MB D [(cB, .byte), (cI, .int), (cJ, .long), (cZ, .boolean), (cT, .object RX7), (cR, .object RX3)] [(a0, .inl (cI, 30, .inl (fun _ => 0)))] sz (fun (u : Unit) => [(a0, .inl (cI, 30, .inl (fun _ => 0)))])) (va_A [(a0, .inl (cI, 30, .inl (fun _ => 0)))] sz)) 0 0 (va_A [(a0, .inl (cI, 30, .inl (fun _ => 0)))] sz) := by
  refine pm (by decide) (Nat.le_of_ble_eq_true rfl) ?_
  intro p e s m below meth c ls hx hb hr hml hown hlk hnm hts hv hl
  have hown : s.vm.findClass RX10 = some m.cls := hown
  have hl : lv_has ls 5 [(0, .ref a0), (1, .int 6), (2, .int 4), (3, .int 0)] := hl
  obtain ⟨hsz, hP, hK, hD0, hE⟩ := hv
  subst hsz
  have hD := hD0.self (sz := s.heap.size)
  obtain ⟨AA, hAe⟩ : ∃ AA, AA = va_A [(a0, .inl (cI, 30, .inl (fun _ => 0)))] s.heap.size := ⟨_, rfl⟩
  rw [← hAe] at hD
  have hA : ∀ q : Nat, s.heap.size ≤ q → AA q := fun q h => by rw [hAe]; exact Or.inr h
  have hS : va_S AA s.heap s.heap [] := va_S.rf
  obtain ⟨-, hAOT, hAOR, hAOI⟩ := id hE
  refine lv_iconst (v := 0) hx hb dX10_copyRow_0 (by decide) ?_
  refine lv_istore (lv' := [(4, .int 0), (0, .ref a0), (1, .int 6), (2, .int 4), (3, .int 0)]) hx hb dX10_copyRow_1 hl (by decide) rfl (fun ls hl => ?_)
  refine lp_X10_copyRow_2 hx hb uc_in hts hown hK (fun H locs ls hP hD hS hl => ?_) 6 0 (by omega) _ _ ls hP hD hS hl
  have hP : va_P D vwCl [(a0, .inl (cI, 30, .inl (fun _ => 0)))] H := hP
  have hD : va_D AA [(a0, .inl (cI, 30, .inl (fun _ => 0)))] := hD
  subst hAe
  have hP9 := hP.sub (ws' := [(a0, .inl (cI, 30, .inl (fun _ => 0)))]) [0] rfl
  have hD9 := hD.sub (ws' := [(a0, .inl (cI, 30, .inl (fun _ => 0)))]) [0] rfl rfl
  exact W.vret hx hb hr (fun t ht hW => ⟨⟨(), rfl, trivial, by rw [ht]; exact hP9, va_K.moved hW.alike hK, hD9⟩, hS.F ht⟩) hS.2.2 dX10_copyRow_31
set_option maxHeartbeats 4000000 in
set_option maxRecDepth 100000 in
theorem lp_X10_copyRow_3 {p : Program} {l : Launch} {e : Env} {R : Room} {s : State} {m : MethodId} {args : Array Value} {below : List Frame} {meth : Method} {c : Code} {cells slots : Nat} {Q : State → Prop} {D : va_G} {AA : Nat → Prop} {H0 : Heap} {Ts : List Cond} {cB cI cJ cZ cT cR : ClassId} {a0 : Nat} (hx : p.tables.exec = Jvm.exec) (hb : c.code = cX10_copyRow) (hT : ∀ w ∈ uw, w ∈ Ts) (hts : ∀ w ∈ Ts, w.before args s = true) (hown : s.vm.findClass RX10 = some m.cls) (hK : va_K D vwCl [(cB, .byte), (cI, .int), (cJ, .long), (cZ, .boolean), (cT, .object RX7), (cR, .object RX3)] s)
    (kx : ∀ (H : Heap) (locs : List Loc) (ls : Array Slot), va_P D vwCl [(a0, .inl (cI, 150, .inl (fun _ => 0)))] H → va_D AA [(a0, .inl (cI, 150, .inl (fun _ => 0)))] → va_S AA H0 H locs → lv_has ls 5 [(4, .int 30), (0, .ref a0), (1, .int 30), (2, .int 4), (3, .int 0)] → W p l e R s m args below meth c H locs cells slots Q (F0 m 31 ls [])) :
    ∀ (j k : Nat), k + j = 30 → ∀ (H : Heap) (locs : List Loc) (ls : Array Slot), va_P D vwCl [(a0, .inl (cI, 150, .inl (fun _ => 0)))] H → va_D AA [(a0, .inl (cI, 150, .inl (fun _ => 0)))] → va_S AA H0 H locs → lv_has ls 5 [(4, .int (nI k)), (0, .ref a0), (1, .int 30), (2, .int 4), (3, .int 0)] → W p l e R s m args below meth c H locs cells slots Q (F0 m 3 ls []) := by
  intro j
  induction j with
  | zero =>
    intro k hk H locs ls hP hD hS hl
    refine lv_iload hx hb dX10_copyRow_3 (lv_at hl 0 rfl) ?_
    refine lv_iload_n hx hb dX10_copyRow_5 rfl (lv_at hl 2 rfl) ?_
    refine lv_icmp_ge (tgt := 31) hx hb dX10_copyRow_6 (by decide) (fun _ => ?_) (fun c9 => absurd (show (30 : Int32) ≤ nI k from nI_le (a := 30) (by omega) (by omega)) c9)
    have ek : k = 30 := by omega
    subst ek
    exact kx H locs ls hP hD hS hl
  | succ j ih =>
    intro k hk H locs ls hP hD hS hl
    refine lv_iload hx hb dX10_copyRow_3 (lv_at hl 0 rfl) ?_
    refine lv_iload_n hx hb dX10_copyRow_5 rfl (lv_at hl 2 rfl) ?_
    refine lv_icmp_ge (tgt := 31) hx hb dX10_copyRow_6 (by decide) (fun c9 => absurd c9 (show ¬ (30 : Int32) ≤ nI k from nI_ge (b := 30) (by omega) (by omega))) (fun _ => ?_)
    refine lv_aload_n hx hb dX10_copyRow_9 rfl (lv_at hl 1 rfl) ?_
    refine lv_iload_n hx hb dX10_copyRow_10 rfl (lv_at hl 2 rfl) ?_
    refine lv_iload_n hx hb dX10_copyRow_11 rfl (lv_at hl 4 rfl) ?_
    refine lv_imul hx hb dX10_copyRow_12 ?_
    refine pv_i (v := 0) (by decide) ?_
    refine lv_iload hx hb dX10_copyRow_13 (lv_at hl 0 rfl) ?_
    refine lv_iadd hx hb dX10_copyRow_15 ?_
    refine pv_i (v := (nI (0 + k))) (nI_add 0 k) ?_
    refine lv_aload_n hx hb dX10_copyRow_16 rfl (lv_at hl 1 rfl) ?_
    refine lv_iload_n hx hb dX10_copyRow_17 rfl (lv_at hl 2 rfl) ?_
    refine lv_iload_n hx hb dX10_copyRow_18 rfl (lv_at hl 3 rfl) ?_
    refine lv_imul hx hb dX10_copyRow_19 ?_
    refine pv_i (v := 120) (by decide) ?_
    refine lv_iload hx hb dX10_copyRow_20 (lv_at hl 0 rfl) ?_
    refine lv_iadd hx hb dX10_copyRow_22 ?_
    refine pv_i (v := (nI (120 + k))) (nI_add 120 k) ?_
    refine va_iald hx hb hK hP 0 1 rfl rfl (vp_in_nI (by omega) (by decide)) dX10_copyRow_23 ?_
    refine pv_i (v := 0) rfl ?_
    refine va_iast hx hb hK hP hD hS 0 1 rfl rfl (vp_in_nI (by omega) (by decide)) dX10_copyRow_24 (fun H locs hP hD hS => ?_)
    rw [upd0] at hP hD
    have hP : va_P D vwCl [(a0, .inl (cI, 150, .inl (fun _ => 0)))] H := hP
    have hD : va_D AA [(a0, .inl (cI, 150, .inl (fun _ => 0)))] := hD
    refine lv_iinc (v := (nI (k + 1))) (lv' := [(4, .int (nI (k + 1))), (0, .ref a0), (1, .int 30), (2, .int 4), (3, .int 0)]) hx hb dX10_copyRow_25 hl (k := 0) rfl (nI_1 k) (by decide) rfl (fun ls hl => ?_)
    refine lv_goto (tgt := 3) hx hb dX10_copyRow_28 (by decide) ?_
    exact ih (k + 1) (by omega) H locs ls hP hD hS (lv_sub hl [0, 1, 2, 3, 4] rfl)
set_option maxHeartbeats 4000000 in
set_option maxRecDepth 100000 in
theorem kX10_copyRow_2 (l : Launch) (D : va_G) (cB cI cJ cZ cT cR : ClassId) (a0 : Nat) (sz : Nat) : Met l yX10_copyRow (uc yX10_copyRow cX10_copyRow 5 none) (rmL 1 0 0) (va_Pc [.ref a0, .int 30, .int 4, .int 0] (MPre D [(cB, .byte), (cI, .int), (cJ, .long), (cZ, .boolean), (cT, .object RX7), (cR, .object RX3)] [(a0, .inl (cI, 150, .inl (fun _ => 0)))] sz)) (va_Qv (fun (_ : Unit) => True) (MB D [(cB, .byte), (cI, .int), (cJ, .long), (cZ, .boolean), (cT, .object RX7), (cR, .object RX3)] [(a0, .inl (cI, 150, .inl (fun _ => 0)))] sz (fun (u : Unit) => [(a0, .inl (cI, 150, .inl (fun _ => 0)))])) (va_A [(a0, .inl (cI, 150, .inl (fun _ => 0)))] sz)) 0 0 (va_A [(a0, .inl (cI, 150, .inl (fun _ => 0)))] sz) := by
  refine pm (by decide) (Nat.le_of_ble_eq_true rfl) ?_
  intro p e s m below meth c ls hx hb hr hml hown hlk hnm hts hv hl
  have hown : s.vm.findClass RX10 = some m.cls := hown
  have hl : lv_has ls 5 [(0, .ref a0), (1, .int 30), (2, .int 4), (3, .int 0)] := hl
  obtain ⟨hsz, hP, hK, hD0, hE⟩ := hv
  subst hsz
  have hD := hD0.self (sz := s.heap.size)
  obtain ⟨AA, hAe⟩ : ∃ AA, AA = va_A [(a0, .inl (cI, 150, .inl (fun _ => 0)))] s.heap.size := ⟨_, rfl⟩
  rw [← hAe] at hD
  have hA : ∀ q : Nat, s.heap.size ≤ q → AA q := fun q h => by rw [hAe]; exact Or.inr h
  have hS : va_S AA s.heap s.heap [] := va_S.rf
  obtain ⟨-, hAOT, hAOR, hAOI⟩ := id hE
  refine lv_iconst (v := 0) hx hb dX10_copyRow_0 (by decide) ?_
  refine lv_istore (lv' := [(4, .int 0), (0, .ref a0), (1, .int 30), (2, .int 4), (3, .int 0)]) hx hb dX10_copyRow_1 hl (by decide) rfl (fun ls hl => ?_)
  refine lp_X10_copyRow_3 hx hb uc_in hts hown hK (fun H locs ls hP hD hS hl => ?_) 30 0 (by omega) _ _ ls hP hD hS hl
  have hP : va_P D vwCl [(a0, .inl (cI, 150, .inl (fun _ => 0)))] H := hP
  have hD : va_D AA [(a0, .inl (cI, 150, .inl (fun _ => 0)))] := hD
  subst hAe
  have hP9 := hP.sub (ws' := [(a0, .inl (cI, 150, .inl (fun _ => 0)))]) [0] rfl
  have hD9 := hD.sub (ws' := [(a0, .inl (cI, 150, .inl (fun _ => 0)))]) [0] rfl rfl
  exact W.vret hx hb hr (fun t ht hW => ⟨⟨(), rfl, trivial, by rw [ht]; exact hP9, va_K.moved hW.alike hK, hD9⟩, hS.F ht⟩) hS.2.2 dX10_copyRow_31
set_option maxHeartbeats 4000000 in
set_option maxRecDepth 100000 in
theorem lp_X10_copyRow_4 {p : Program} {l : Launch} {e : Env} {R : Room} {s : State} {m : MethodId} {args : Array Value} {below : List Frame} {meth : Method} {c : Code} {cells slots : Nat} {Q : State → Prop} {D : va_G} {AA : Nat → Prop} {H0 : Heap} {Ts : List Cond} {cB cI cJ cZ cT cR : ClassId} {a0 : Nat} (hx : p.tables.exec = Jvm.exec) (hb : c.code = cX10_copyRow) (hT : ∀ w ∈ uw, w ∈ Ts) (hts : ∀ w ∈ Ts, w.before args s = true) (hown : s.vm.findClass RX10 = some m.cls) (hK : va_K D vwCl [(cB, .byte), (cI, .int), (cJ, .long), (cZ, .boolean), (cT, .object RX7), (cR, .object RX3)] s)
    (kx : ∀ (H : Heap) (locs : List Loc) (ls : Array Slot), va_P D vwCl [(a0, .inl (cI, 25, .inl (fun _ => 0)))] H → va_D AA [(a0, .inl (cI, 25, .inl (fun _ => 0)))] → va_S AA H0 H locs → lv_has ls 5 [(4, .int 5), (0, .ref a0), (1, .int 5), (2, .int 4), (3, .int 0)] → W p l e R s m args below meth c H locs cells slots Q (F0 m 31 ls [])) :
    ∀ (j k : Nat), k + j = 5 → ∀ (H : Heap) (locs : List Loc) (ls : Array Slot), va_P D vwCl [(a0, .inl (cI, 25, .inl (fun _ => 0)))] H → va_D AA [(a0, .inl (cI, 25, .inl (fun _ => 0)))] → va_S AA H0 H locs → lv_has ls 5 [(4, .int (nI k)), (0, .ref a0), (1, .int 5), (2, .int 4), (3, .int 0)] → W p l e R s m args below meth c H locs cells slots Q (F0 m 3 ls []) := by
  intro j
  induction j with
  | zero =>
    intro k hk H locs ls hP hD hS hl
    refine lv_iload hx hb dX10_copyRow_3 (lv_at hl 0 rfl) ?_
    refine lv_iload_n hx hb dX10_copyRow_5 rfl (lv_at hl 2 rfl) ?_
    refine lv_icmp_ge (tgt := 31) hx hb dX10_copyRow_6 (by decide) (fun _ => ?_) (fun c9 => absurd (show (5 : Int32) ≤ nI k from nI_le (a := 5) (by omega) (by omega)) c9)
    have ek : k = 5 := by omega
    subst ek
    exact kx H locs ls hP hD hS hl
  | succ j ih =>
    intro k hk H locs ls hP hD hS hl
    refine lv_iload hx hb dX10_copyRow_3 (lv_at hl 0 rfl) ?_
    refine lv_iload_n hx hb dX10_copyRow_5 rfl (lv_at hl 2 rfl) ?_
    refine lv_icmp_ge (tgt := 31) hx hb dX10_copyRow_6 (by decide) (fun c9 => absurd c9 (show ¬ (5 : Int32) ≤ nI k from nI_ge (b := 5) (by omega) (by omega))) (fun _ => ?_)
    refine lv_aload_n hx hb dX10_copyRow_9 rfl (lv_at hl 1 rfl) ?_
    refine lv_iload_n hx hb dX10_copyRow_10 rfl (lv_at hl 2 rfl) ?_
    refine lv_iload_n hx hb dX10_copyRow_11 rfl (lv_at hl 4 rfl) ?_
    refine lv_imul hx hb dX10_copyRow_12 ?_
    refine pv_i (v := 0) (by decide) ?_
    refine lv_iload hx hb dX10_copyRow_13 (lv_at hl 0 rfl) ?_
    refine lv_iadd hx hb dX10_copyRow_15 ?_
    refine pv_i (v := (nI (0 + k))) (nI_add 0 k) ?_
    refine lv_aload_n hx hb dX10_copyRow_16 rfl (lv_at hl 1 rfl) ?_
    refine lv_iload_n hx hb dX10_copyRow_17 rfl (lv_at hl 2 rfl) ?_
    refine lv_iload_n hx hb dX10_copyRow_18 rfl (lv_at hl 3 rfl) ?_
    refine lv_imul hx hb dX10_copyRow_19 ?_
    refine pv_i (v := 20) (by decide) ?_
    refine lv_iload hx hb dX10_copyRow_20 (lv_at hl 0 rfl) ?_
    refine lv_iadd hx hb dX10_copyRow_22 ?_
    refine pv_i (v := (nI (20 + k))) (nI_add 20 k) ?_
    refine va_iald hx hb hK hP 0 1 rfl rfl (vp_in_nI (by omega) (by decide)) dX10_copyRow_23 ?_
    refine pv_i (v := 0) rfl ?_
    refine va_iast hx hb hK hP hD hS 0 1 rfl rfl (vp_in_nI (by omega) (by decide)) dX10_copyRow_24 (fun H locs hP hD hS => ?_)
    rw [upd0] at hP hD
    have hP : va_P D vwCl [(a0, .inl (cI, 25, .inl (fun _ => 0)))] H := hP
    have hD : va_D AA [(a0, .inl (cI, 25, .inl (fun _ => 0)))] := hD
    refine lv_iinc (v := (nI (k + 1))) (lv' := [(4, .int (nI (k + 1))), (0, .ref a0), (1, .int 5), (2, .int 4), (3, .int 0)]) hx hb dX10_copyRow_25 hl (k := 0) rfl (nI_1 k) (by decide) rfl (fun ls hl => ?_)
    refine lv_goto (tgt := 3) hx hb dX10_copyRow_28 (by decide) ?_
    exact ih (k + 1) (by omega) H locs ls hP hD hS (lv_sub hl [0, 1, 2, 3, 4] rfl)
set_option maxHeartbeats 4000000 in
set_option maxRecDepth 100000 in
theorem kX10_copyRow_3 (l : Launch) (D : va_G) (cB cI cJ cZ cT cR : ClassId) (a0 : Nat) (sz : Nat) : Met l yX10_copyRow (uc yX10_copyRow cX10_copyRow 5 none) (rmL 1 0 0) (va_Pc [.ref a0, .int 5, .int 4, .int 0] (MPre D [(cB, .byte), (cI, .int), (cJ, .long), (cZ, .boolean), (cT, .object RX7), (cR, .object RX3)] [(a0, .inl (cI, 25, .inl (fun _ => 0)))] sz)) (va_Qv (fun (_ : Unit) => True) (MB D [(cB, .byte), (cI, .int), (cJ, .long), (cZ, .boolean), (cT, .object RX7), (cR, .object RX3)] [(a0, .inl (cI, 25, .inl (fun _ => 0)))] sz (fun (u : Unit) => [(a0, .inl (cI, 25, .inl (fun _ => 0)))])) (va_A [(a0, .inl (cI, 25, .inl (fun _ => 0)))] sz)) 0 0 (va_A [(a0, .inl (cI, 25, .inl (fun _ => 0)))] sz) := by
  refine pm (by decide) (Nat.le_of_ble_eq_true rfl) ?_
  intro p e s m below meth c ls hx hb hr hml hown hlk hnm hts hv hl
  have hown : s.vm.findClass RX10 = some m.cls := hown
  have hl : lv_has ls 5 [(0, .ref a0), (1, .int 5), (2, .int 4), (3, .int 0)] := hl
  obtain ⟨hsz, hP, hK, hD0, hE⟩ := hv
  subst hsz
  have hD := hD0.self (sz := s.heap.size)
  obtain ⟨AA, hAe⟩ : ∃ AA, AA = va_A [(a0, .inl (cI, 25, .inl (fun _ => 0)))] s.heap.size := ⟨_, rfl⟩
  rw [← hAe] at hD
  have hA : ∀ q : Nat, s.heap.size ≤ q → AA q := fun q h => by rw [hAe]; exact Or.inr h
  have hS : va_S AA s.heap s.heap [] := va_S.rf
  obtain ⟨-, hAOT, hAOR, hAOI⟩ := id hE
  refine lv_iconst (v := 0) hx hb dX10_copyRow_0 (by decide) ?_
  refine lv_istore (lv' := [(4, .int 0), (0, .ref a0), (1, .int 5), (2, .int 4), (3, .int 0)]) hx hb dX10_copyRow_1 hl (by decide) rfl (fun ls hl => ?_)
  refine lp_X10_copyRow_4 hx hb uc_in hts hown hK (fun H locs ls hP hD hS hl => ?_) 5 0 (by omega) _ _ ls hP hD hS hl
  have hP : va_P D vwCl [(a0, .inl (cI, 25, .inl (fun _ => 0)))] H := hP
  have hD : va_D AA [(a0, .inl (cI, 25, .inl (fun _ => 0)))] := hD
  subst hAe
  have hP9 := hP.sub (ws' := [(a0, .inl (cI, 25, .inl (fun _ => 0)))]) [0] rfl
  have hD9 := hD.sub (ws' := [(a0, .inl (cI, 25, .inl (fun _ => 0)))]) [0] rfl rfl
  exact W.vret hx hb hr (fun t ht hW => ⟨⟨(), rfl, trivial, by rw [ht]; exact hP9, va_K.moved hW.alike hK, hD9⟩, hS.F ht⟩) hS.2.2 dX10_copyRow_31
set_option maxHeartbeats 4000000 in
set_option maxRecDepth 100000 in
theorem lp_X10_copyRow_5 {p : Program} {l : Launch} {e : Env} {R : Room} {s : State} {m : MethodId} {args : Array Value} {below : List Frame} {meth : Method} {c : Code} {cells slots : Nat} {Q : State → Prop} {D : va_G} {AA : Nat → Prop} {H0 : Heap} {Ts : List Cond} {cB cI cJ cZ cT cR : ClassId} {a0 : Nat} (hx : p.tables.exec = Jvm.exec) (hb : c.code = cX10_copyRow) (hT : ∀ w ∈ uw, w ∈ Ts) (hts : ∀ w ∈ Ts, w.before args s = true) (hown : s.vm.findClass RX10 = some m.cls) (hK : va_K D vwCl [(cB, .byte), (cI, .int), (cJ, .long), (cZ, .boolean), (cT, .object RX7), (cR, .object RX3)] s)
    (kx : ∀ (H : Heap) (locs : List Loc) (ls : Array Slot), va_P D vwCl [(a0, .inl (cI, 600, .inl (fun _ => 0)))] H → va_D AA [(a0, .inl (cI, 600, .inl (fun _ => 0)))] → va_S AA H0 H locs → lv_has ls 5 [(4, .int 120), (0, .ref a0), (1, .int 120), (2, .int 4), (3, .int 0)] → W p l e R s m args below meth c H locs cells slots Q (F0 m 31 ls [])) :
    ∀ (j k : Nat), k + j = 120 → ∀ (H : Heap) (locs : List Loc) (ls : Array Slot), va_P D vwCl [(a0, .inl (cI, 600, .inl (fun _ => 0)))] H → va_D AA [(a0, .inl (cI, 600, .inl (fun _ => 0)))] → va_S AA H0 H locs → lv_has ls 5 [(4, .int (nI k)), (0, .ref a0), (1, .int 120), (2, .int 4), (3, .int 0)] → W p l e R s m args below meth c H locs cells slots Q (F0 m 3 ls []) := by
  intro j
  induction j with
  | zero =>
    intro k hk H locs ls hP hD hS hl
    refine lv_iload hx hb dX10_copyRow_3 (lv_at hl 0 rfl) ?_
    refine lv_iload_n hx hb dX10_copyRow_5 rfl (lv_at hl 2 rfl) ?_
    refine lv_icmp_ge (tgt := 31) hx hb dX10_copyRow_6 (by decide) (fun _ => ?_) (fun c9 => absurd (show (120 : Int32) ≤ nI k from nI_le (a := 120) (by omega) (by omega)) c9)
    have ek : k = 120 := by omega
    subst ek
    exact kx H locs ls hP hD hS hl
  | succ j ih =>
    intro k hk H locs ls hP hD hS hl
    refine lv_iload hx hb dX10_copyRow_3 (lv_at hl 0 rfl) ?_
    refine lv_iload_n hx hb dX10_copyRow_5 rfl (lv_at hl 2 rfl) ?_
    refine lv_icmp_ge (tgt := 31) hx hb dX10_copyRow_6 (by decide) (fun c9 => absurd c9 (show ¬ (120 : Int32) ≤ nI k from nI_ge (b := 120) (by omega) (by omega))) (fun _ => ?_)
    refine lv_aload_n hx hb dX10_copyRow_9 rfl (lv_at hl 1 rfl) ?_
    refine lv_iload_n hx hb dX10_copyRow_10 rfl (lv_at hl 2 rfl) ?_
    refine lv_iload_n hx hb dX10_copyRow_11 rfl (lv_at hl 4 rfl) ?_
    refine lv_imul hx hb dX10_copyRow_12 ?_
    refine pv_i (v := 0) (by decide) ?_
    refine lv_iload hx hb dX10_copyRow_13 (lv_at hl 0 rfl) ?_
    refine lv_iadd hx hb dX10_copyRow_15 ?_
    refine pv_i (v := (nI (0 + k))) (nI_add 0 k) ?_
    refine lv_aload_n hx hb dX10_copyRow_16 rfl (lv_at hl 1 rfl) ?_
    refine lv_iload_n hx hb dX10_copyRow_17 rfl (lv_at hl 2 rfl) ?_
    refine lv_iload_n hx hb dX10_copyRow_18 rfl (lv_at hl 3 rfl) ?_
    refine lv_imul hx hb dX10_copyRow_19 ?_
    refine pv_i (v := 480) (by decide) ?_
    refine lv_iload hx hb dX10_copyRow_20 (lv_at hl 0 rfl) ?_
    refine lv_iadd hx hb dX10_copyRow_22 ?_
    refine pv_i (v := (nI (480 + k))) (nI_add 480 k) ?_
    refine va_iald hx hb hK hP 0 1 rfl rfl (vp_in_nI (by omega) (by decide)) dX10_copyRow_23 ?_
    refine pv_i (v := 0) rfl ?_
    refine va_iast hx hb hK hP hD hS 0 1 rfl rfl (vp_in_nI (by omega) (by decide)) dX10_copyRow_24 (fun H locs hP hD hS => ?_)
    rw [upd0] at hP hD
    have hP : va_P D vwCl [(a0, .inl (cI, 600, .inl (fun _ => 0)))] H := hP
    have hD : va_D AA [(a0, .inl (cI, 600, .inl (fun _ => 0)))] := hD
    refine lv_iinc (v := (nI (k + 1))) (lv' := [(4, .int (nI (k + 1))), (0, .ref a0), (1, .int 120), (2, .int 4), (3, .int 0)]) hx hb dX10_copyRow_25 hl (k := 0) rfl (nI_1 k) (by decide) rfl (fun ls hl => ?_)
    refine lv_goto (tgt := 3) hx hb dX10_copyRow_28 (by decide) ?_
    exact ih (k + 1) (by omega) H locs ls hP hD hS (lv_sub hl [0, 1, 2, 3, 4] rfl)
set_option maxHeartbeats 4000000 in
set_option maxRecDepth 100000 in
theorem kX10_copyRow_4 (l : Launch) (D : va_G) (cB cI cJ cZ cT cR : ClassId) (a0 : Nat) (sz : Nat) : Met l yX10_copyRow (uc yX10_copyRow cX10_copyRow 5 none) (rmL 1 0 0) (va_Pc [.ref a0, .int 120, .int 4, .int 0] (MPre D [(cB, .byte), (cI, .int), (cJ, .long), (cZ, .boolean), (cT, .object RX7), (cR, .object RX3)] [(a0, .inl (cI, 600, .inl (fun _ => 0)))] sz)) (va_Qv (fun (_ : Unit) => True) (MB D [(cB, .byte), (cI, .int), (cJ, .long), (cZ, .boolean), (cT, .object RX7), (cR, .object RX3)] [(a0, .inl (cI, 600, .inl (fun _ => 0)))] sz (fun (u : Unit) => [(a0, .inl (cI, 600, .inl (fun _ => 0)))])) (va_A [(a0, .inl (cI, 600, .inl (fun _ => 0)))] sz)) 0 0 (va_A [(a0, .inl (cI, 600, .inl (fun _ => 0)))] sz) := by
  refine pm (by decide) (Nat.le_of_ble_eq_true rfl) ?_
  intro p e s m below meth c ls hx hb hr hml hown hlk hnm hts hv hl
  have hown : s.vm.findClass RX10 = some m.cls := hown
  have hl : lv_has ls 5 [(0, .ref a0), (1, .int 120), (2, .int 4), (3, .int 0)] := hl
  obtain ⟨hsz, hP, hK, hD0, hE⟩ := hv
  subst hsz
  have hD := hD0.self (sz := s.heap.size)
  obtain ⟨AA, hAe⟩ : ∃ AA, AA = va_A [(a0, .inl (cI, 600, .inl (fun _ => 0)))] s.heap.size := ⟨_, rfl⟩
  rw [← hAe] at hD
  have hA : ∀ q : Nat, s.heap.size ≤ q → AA q := fun q h => by rw [hAe]; exact Or.inr h
  have hS : va_S AA s.heap s.heap [] := va_S.rf
  obtain ⟨-, hAOT, hAOR, hAOI⟩ := id hE
  refine lv_iconst (v := 0) hx hb dX10_copyRow_0 (by decide) ?_
  refine lv_istore (lv' := [(4, .int 0), (0, .ref a0), (1, .int 120), (2, .int 4), (3, .int 0)]) hx hb dX10_copyRow_1 hl (by decide) rfl (fun ls hl => ?_)
  refine lp_X10_copyRow_5 hx hb uc_in hts hown hK (fun H locs ls hP hD hS hl => ?_) 120 0 (by omega) _ _ ls hP hD hS hl
  have hP : va_P D vwCl [(a0, .inl (cI, 600, .inl (fun _ => 0)))] H := hP
  have hD : va_D AA [(a0, .inl (cI, 600, .inl (fun _ => 0)))] := hD
  subst hAe
  have hP9 := hP.sub (ws' := [(a0, .inl (cI, 600, .inl (fun _ => 0)))]) [0] rfl
  have hD9 := hD.sub (ws' := [(a0, .inl (cI, 600, .inl (fun _ => 0)))]) [0] rfl rfl
  exact W.vret hx hb hr (fun t ht hW => ⟨⟨(), rfl, trivial, by rw [ht]; exact hP9, va_K.moved hW.alike hK, hD9⟩, hS.F ht⟩) hS.2.2 dX10_copyRow_31
set_option maxHeartbeats 4000000 in
set_option maxRecDepth 100000 in
theorem kX10_copyTown_0 (l : Launch) (D : va_G) (cB cI cJ cZ cT cR : ClassId) (a0 a1 a2 a3 a4 a5 a6 a7 a8 a9 a10 a11 a12 a13 a14 a15 a16 a17 a18 : Nat) (sz : Nat) : Met l yX10_copyTown (uc yX10_copyTown cX10_copyTown 3 none) (rmL 2 0 0) (va_Pc [.ref a0, .int 4, .int 0] (MPre D [(cB, .byte), (cI, .int), (cJ, .long), (cZ, .boolean), (cT, .object RX7), (cR, .object RX3)] [(a1, .inl (cI, 150, .inl (fun _ => 0))), (a2, .inl (cI, 25, .inl (fun _ => 0))), (a3, .inl (cI, 600, .inl (fun _ => 0))), (a4, .inl (cI, 5, .inl (fun _ => 0))), (a5, .inl (cI, 30, .inl (fun _ => 0))), (a0, .inr (10, [.int 0, .ref a6, .ref a7, .ref a8, .ref a9, .ref a10, .int 0, .int 0, .int 0, .int 0, .int 0, .long 0, .int 0, .int (-1), .int 0, .int (-1), .ref a4, .ref a5, .ref a1, .ref a2, .ref a3, .ref a11, .ref a12, .ref a13, .int 0, .int 0, .ref a14, .ref a15, .int 0, .int 0, .int 0, .ref a16, .ref a17, .int 0, .int 0, .int 0, .int 0, .int 0, .ref a18, .int 0, .int 0, .int 0]))] sz)) (va_Qv (fun (_ : Unit) => True) (MB D [(cB, .byte), (cI, .int), (cJ, .long), (cZ, .boolean), (cT, .object RX7), (cR, .object RX3)] [(a1, .inl (cI, 150, .inl (fun _ => 0))), (a2, .inl (cI, 25, .inl (fun _ => 0))), (a3, .inl (cI, 600, .inl (fun _ => 0))), (a4, .inl (cI, 5, .inl (fun _ => 0))), (a5, .inl (cI, 30, .inl (fun _ => 0))), (a0, .inr (10, [.int 0, .ref a6, .ref a7, .ref a8, .ref a9, .ref a10, .int 0, .int 0, .int 0, .int 0, .int 0, .long 0, .int 0, .int (-1), .int 0, .int (-1), .ref a4, .ref a5, .ref a1, .ref a2, .ref a3, .ref a11, .ref a12, .ref a13, .int 0, .int 0, .ref a14, .ref a15, .int 0, .int 0, .int 0, .ref a16, .ref a17, .int 0, .int 0, .int 0, .int 0, .int 0, .ref a18, .int 0, .int 0, .int 0]))] sz (fun (u : Unit) => [(a0, .inr (10, [.int 0, .ref a6, .ref a7, .ref a8, .ref a9, .ref a10, .int 0, .int 0, .int 0, .int 0, .int 0, .long 0, .int 0, .int (-1), .int 0, .int (-1), .ref a4, .ref a5, .ref a1, .ref a2, .ref a3, .ref a11, .ref a12, .ref a13, .int 0, .int 0, .ref a14, .ref a15, .int 0, .int 0, .int 0, .ref a16, .ref a17, .int 0, .int 0, .int 0, .int 0, .int 0, .ref a18, .int 0, .int 0, .int 0])), (a4, .inl (cI, 5, .inl (fun _ => 0))), (a5, .inl (cI, 30, .inl (fun _ => 0))), (a1, .inl (cI, 150, .inl (fun _ => 0))), (a2, .inl (cI, 25, .inl (fun _ => 0))), (a3, .inl (cI, 600, .inl (fun _ => 0)))])) (va_A [(a1, .inl (cI, 150, .inl (fun _ => 0))), (a2, .inl (cI, 25, .inl (fun _ => 0))), (a3, .inl (cI, 600, .inl (fun _ => 0))), (a4, .inl (cI, 5, .inl (fun _ => 0))), (a5, .inl (cI, 30, .inl (fun _ => 0))), (a0, .inr (10, [.int 0, .ref a6, .ref a7, .ref a8, .ref a9, .ref a10, .int 0, .int 0, .int 0, .int 0, .int 0, .long 0, .int 0, .int (-1), .int 0, .int (-1), .ref a4, .ref a5, .ref a1, .ref a2, .ref a3, .ref a11, .ref a12, .ref a13, .int 0, .int 0, .ref a14, .ref a15, .int 0, .int 0, .int 0, .ref a16, .ref a17, .int 0, .int 0, .int 0, .int 0, .int 0, .ref a18, .int 0, .int 0, .int 0]))] sz)) 0 0 (va_A [(a1, .inl (cI, 150, .inl (fun _ => 0))), (a2, .inl (cI, 25, .inl (fun _ => 0))), (a3, .inl (cI, 600, .inl (fun _ => 0))), (a4, .inl (cI, 5, .inl (fun _ => 0))), (a5, .inl (cI, 30, .inl (fun _ => 0))), (a0, .inr (10, [.int 0, .ref a6, .ref a7, .ref a8, .ref a9, .ref a10, .int 0, .int 0, .int 0, .int 0, .int 0, .long 0, .int 0, .int (-1), .int 0, .int (-1), .ref a4, .ref a5, .ref a1, .ref a2, .ref a3, .ref a11, .ref a12, .ref a13, .int 0, .int 0, .ref a14, .ref a15, .int 0, .int 0, .int 0, .ref a16, .ref a17, .int 0, .int 0, .int 0, .int 0, .int 0, .ref a18, .int 0, .int 0, .int 0]))] sz) := by
  refine pm (by decide) (Nat.le_of_ble_eq_true rfl) ?_
  intro p e s m below meth c ls hx hb hr hml hown hlk hnm hts hv hl
  have hown : s.vm.findClass RX10 = some m.cls := hown
  have hl : lv_has ls 3 [(0, .ref a0), (1, .int 4), (2, .int 0)] := hl
  obtain ⟨hsz, hP, hK, hD0, hE⟩ := hv
  subst hsz
  have hD := hD0.self (sz := s.heap.size)
  obtain ⟨AA, hAe⟩ : ∃ AA, AA = va_A [(a1, .inl (cI, 150, .inl (fun _ => 0))), (a2, .inl (cI, 25, .inl (fun _ => 0))), (a3, .inl (cI, 600, .inl (fun _ => 0))), (a4, .inl (cI, 5, .inl (fun _ => 0))), (a5, .inl (cI, 30, .inl (fun _ => 0))), (a0, .inr (10, [.int 0, .ref a6, .ref a7, .ref a8, .ref a9, .ref a10, .int 0, .int 0, .int 0, .int 0, .int 0, .long 0, .int 0, .int (-1), .int 0, .int (-1), .ref a4, .ref a5, .ref a1, .ref a2, .ref a3, .ref a11, .ref a12, .ref a13, .int 0, .int 0, .ref a14, .ref a15, .int 0, .int 0, .int 0, .ref a16, .ref a17, .int 0, .int 0, .int 0, .int 0, .int 0, .ref a18, .int 0, .int 0, .int 0]))] s.heap.size := ⟨_, rfl⟩
  rw [← hAe] at hD
  have hA : ∀ q : Nat, s.heap.size ≤ q → AA q := fun q h => by rw [hAe]; exact Or.inr h
  have hS : va_S AA s.heap s.heap [] := va_S.rf
  obtain ⟨-, hAOT, hAOR, hAOI⟩ := id hE
  refine lv_aload_n hx hb dX10_copyTown_0 rfl (lv_at hl 0 rfl) ?_
  refine va_get (D := D) (ci := 10) (v := .ref a4) (C := RX10) (T := TX10) (N := 42) hx hb hts (fun w h => uc_in w (inX10 w h)) hown hK hP 5 rfl rfl 16 (by decide) (hts _ (uc_in _ q_f1204)) (fun _ h9 => h9) rfl dX10_copyTown_1 ?_
  refine lv_iconst (v := 1) hx hb dX10_copyTown_4 (by decide) ?_
  refine lv_iload_n hx hb dX10_copyTown_5 rfl (lv_at hl 1 rfl) ?_
  refine lv_iload_n hx hb dX10_copyTown_6 rfl (lv_at hl 2 rfl) ?_
  refine csV (n := 4) (As := [.ref a4, .int 1, .int 4, .int 0]) (rest := []) (wr := [(a1, .inl (cI, 150, .inl (fun _ => 0))), (a2, .inl (cI, 25, .inl (fun _ => 0))), (a3, .inl (cI, 600, .inl (fun _ => 0))), (a5, .inl (cI, 30, .inl (fun _ => 0))), (a0, .inr (10, [.int 0, .ref a6, .ref a7, .ref a8, .ref a9, .ref a10, .int 0, .int 0, .int 0, .int 0, .int 0, .long 0, .int 0, .int (-1), .int 0, .int (-1), .ref a4, .ref a5, .ref a1, .ref a2, .ref a3, .ref a11, .ref a12, .ref a13, .int 0, .int 0, .ref a14, .ref a15, .int 0, .int 0, .int 0, .ref a16, .ref a17, .int 0, .int 0, .int 0, .int 0, .int 0, .ref a18, .int 0, .int 0, .int 0]))]) ⟨hx, hb, hml, hown, hts⟩ uc_in (kX10_copyRow_0 l D cB cI cJ cZ cT cR a4 _) q_m1453 q_s1454 q_i11 q_c1455 (by decide +kernel) ⟨(Nat.le_of_ble_eq_true rfl), (Nat.le_of_ble_eq_true rfl)⟩ ⟨(Nat.le_of_ble_eq_true rfl), (Nat.le_of_ble_eq_true rfl)⟩ hE hK hP hD hS hA [3] [0, 1, 2, 4, 5] rfl rfl rfl rfl (by decide) rfl hl.1 rfl (Nat.le_of_ble_eq_true rfl) dX10_copyTown_7 (fun u H locs hpo hP hD hS => ?_)
  have hP : va_P D vwCl [(a1, .inl (cI, 150, .inl (fun _ => 0))), (a2, .inl (cI, 25, .inl (fun _ => 0))), (a3, .inl (cI, 600, .inl (fun _ => 0))), (a5, .inl (cI, 30, .inl (fun _ => 0))), (a0, .inr (10, [.int 0, .ref a6, .ref a7, .ref a8, .ref a9, .ref a10, .int 0, .int 0, .int 0, .int 0, .int 0, .long 0, .int 0, .int (-1), .int 0, .int (-1), .ref a4, .ref a5, .ref a1, .ref a2, .ref a3, .ref a11, .ref a12, .ref a13, .int 0, .int 0, .ref a14, .ref a15, .int 0, .int 0, .int 0, .ref a16, .ref a17, .int 0, .int 0, .int 0, .int 0, .int 0, .ref a18, .int 0, .int 0, .int 0])), (a4, .inl (cI, 5, .inl (fun _ => 0)))] H := hP
  have hD : va_D AA [(a1, .inl (cI, 150, .inl (fun _ => 0))), (a2, .inl (cI, 25, .inl (fun _ => 0))), (a3, .inl (cI, 600, .inl (fun _ => 0))), (a5, .inl (cI, 30, .inl (fun _ => 0))), (a0, .inr (10, [.int 0, .ref a6, .ref a7, .ref a8, .ref a9, .ref a10, .int 0, .int 0, .int 0, .int 0, .int 0, .long 0, .int 0, .int (-1), .int 0, .int (-1), .ref a4, .ref a5, .ref a1, .ref a2, .ref a3, .ref a11, .ref a12, .ref a13, .int 0, .int 0, .ref a14, .ref a15, .int 0, .int 0, .int 0, .ref a16, .ref a17, .int 0, .int 0, .int 0, .int 0, .int 0, .ref a18, .int 0, .int 0, .int 0])), (a4, .inl (cI, 5, .inl (fun _ => 0)))] := hD
  refine W.cs (cells' := 0) (slots' := 0) rfl rfl ?_
  refine lv_aload_n hx hb dX10_copyTown_10 rfl (lv_at hl 0 rfl) ?_
  refine va_get (D := D) (ci := 10) (v := .ref a5) (C := RX10) (T := TX10) (N := 42) hx hb hts (fun w h => uc_in w (inX10 w h)) hown hK hP 4 rfl rfl 17 (by decide) (hts _ (uc_in _ q_f1205)) (fun _ h9 => h9) rfl dX10_copyTown_11 ?_
  refine lv_bipush (v := 6) hx hb dX10_copyTown_14 (by decide) ?_
  refine lv_iload_n hx hb dX10_copyTown_16 rfl (lv_at hl 1 rfl) ?_
  refine lv_iload_n hx hb dX10_copyTown_17 rfl (lv_at hl 2 rfl) ?_
  refine csV (n := 4) (As := [.ref a5, .int 6, .int 4, .int 0]) (rest := []) (wr := [(a1, .inl (cI, 150, .inl (fun _ => 0))), (a2, .inl (cI, 25, .inl (fun _ => 0))), (a3, .inl (cI, 600, .inl (fun _ => 0))), (a0, .inr (10, [.int 0, .ref a6, .ref a7, .ref a8, .ref a9, .ref a10, .int 0, .int 0, .int 0, .int 0, .int 0, .long 0, .int 0, .int (-1), .int 0, .int (-1), .ref a4, .ref a5, .ref a1, .ref a2, .ref a3, .ref a11, .ref a12, .ref a13, .int 0, .int 0, .ref a14, .ref a15, .int 0, .int 0, .int 0, .ref a16, .ref a17, .int 0, .int 0, .int 0, .int 0, .int 0, .ref a18, .int 0, .int 0, .int 0])), (a4, .inl (cI, 5, .inl (fun _ => 0)))]) ⟨hx, hb, hml, hown, hts⟩ uc_in (kX10_copyRow_1 l D cB cI cJ cZ cT cR a5 H.size) q_m1453 q_s1454 q_i11 q_c1455 (by decide +kernel) ⟨(Nat.le_of_ble_eq_true rfl), (Nat.le_of_ble_eq_true rfl)⟩ ⟨(Nat.le_of_ble_eq_true rfl), (Nat.le_of_ble_eq_true rfl)⟩ hE hK hP hD hS hA [3] [0, 1, 2, 4, 5] rfl rfl rfl rfl (by decide) rfl hl.1 rfl (Nat.le_of_ble_eq_true rfl) dX10_copyTown_18 (fun u H locs hpo hP hD hS => ?_)
  have hP : va_P D vwCl [(a1, .inl (cI, 150, .inl (fun _ => 0))), (a2, .inl (cI, 25, .inl (fun _ => 0))), (a3, .inl (cI, 600, .inl (fun _ => 0))), (a0, .inr (10, [.int 0, .ref a6, .ref a7, .ref a8, .ref a9, .ref a10, .int 0, .int 0, .int 0, .int 0, .int 0, .long 0, .int 0, .int (-1), .int 0, .int (-1), .ref a4, .ref a5, .ref a1, .ref a2, .ref a3, .ref a11, .ref a12, .ref a13, .int 0, .int 0, .ref a14, .ref a15, .int 0, .int 0, .int 0, .ref a16, .ref a17, .int 0, .int 0, .int 0, .int 0, .int 0, .ref a18, .int 0, .int 0, .int 0])), (a4, .inl (cI, 5, .inl (fun _ => 0))), (a5, .inl (cI, 30, .inl (fun _ => 0)))] H := hP
  have hD : va_D AA [(a1, .inl (cI, 150, .inl (fun _ => 0))), (a2, .inl (cI, 25, .inl (fun _ => 0))), (a3, .inl (cI, 600, .inl (fun _ => 0))), (a0, .inr (10, [.int 0, .ref a6, .ref a7, .ref a8, .ref a9, .ref a10, .int 0, .int 0, .int 0, .int 0, .int 0, .long 0, .int 0, .int (-1), .int 0, .int (-1), .ref a4, .ref a5, .ref a1, .ref a2, .ref a3, .ref a11, .ref a12, .ref a13, .int 0, .int 0, .ref a14, .ref a15, .int 0, .int 0, .int 0, .ref a16, .ref a17, .int 0, .int 0, .int 0, .int 0, .int 0, .ref a18, .int 0, .int 0, .int 0])), (a4, .inl (cI, 5, .inl (fun _ => 0))), (a5, .inl (cI, 30, .inl (fun _ => 0)))] := hD
  refine W.cs (cells' := 0) (slots' := 0) rfl rfl ?_
  refine lv_aload_n hx hb dX10_copyTown_21 rfl (lv_at hl 0 rfl) ?_
  refine va_get (D := D) (ci := 10) (v := .ref a1) (C := RX10) (T := TX10) (N := 42) hx hb hts (fun w h => uc_in w (inX10 w h)) hown hK hP 3 rfl rfl 18 (by decide) (hts _ (uc_in _ q_f1206)) (fun _ h9 => h9) rfl dX10_copyTown_22 ?_
  refine lv_bipush (v := 30) hx hb dX10_copyTown_25 (by decide) ?_
  refine lv_iload_n hx hb dX10_copyTown_27 rfl (lv_at hl 1 rfl) ?_
  refine lv_iload_n hx hb dX10_copyTown_28 rfl (lv_at hl 2 rfl) ?_
  refine csV (n := 4) (As := [.ref a1, .int 30, .int 4, .int 0]) (rest := []) (wr := [(a2, .inl (cI, 25, .inl (fun _ => 0))), (a3, .inl (cI, 600, .inl (fun _ => 0))), (a0, .inr (10, [.int 0, .ref a6, .ref a7, .ref a8, .ref a9, .ref a10, .int 0, .int 0, .int 0, .int 0, .int 0, .long 0, .int 0, .int (-1), .int 0, .int (-1), .ref a4, .ref a5, .ref a1, .ref a2, .ref a3, .ref a11, .ref a12, .ref a13, .int 0, .int 0, .ref a14, .ref a15, .int 0, .int 0, .int 0, .ref a16, .ref a17, .int 0, .int 0, .int 0, .int 0, .int 0, .ref a18, .int 0, .int 0, .int 0])), (a4, .inl (cI, 5, .inl (fun _ => 0))), (a5, .inl (cI, 30, .inl (fun _ => 0)))]) ⟨hx, hb, hml, hown, hts⟩ uc_in (kX10_copyRow_2 l D cB cI cJ cZ cT cR a1 H.size) q_m1453 q_s1454 q_i11 q_c1455 (by decide +kernel) ⟨(Nat.le_of_ble_eq_true rfl), (Nat.le_of_ble_eq_true rfl)⟩ ⟨(Nat.le_of_ble_eq_true rfl), (Nat.le_of_ble_eq_true rfl)⟩ hE hK hP hD hS hA [0] [1, 2, 3, 4, 5] rfl rfl rfl rfl (by decide) rfl hl.1 rfl (Nat.le_of_ble_eq_true rfl) dX10_copyTown_29 (fun u H locs hpo hP hD hS => ?_)
  have hP : va_P D vwCl [(a2, .inl (cI, 25, .inl (fun _ => 0))), (a3, .inl (cI, 600, .inl (fun _ => 0))), (a0, .inr (10, [.int 0, .ref a6, .ref a7, .ref a8, .ref a9, .ref a10, .int 0, .int 0, .int 0, .int 0, .int 0, .long 0, .int 0, .int (-1), .int 0, .int (-1), .ref a4, .ref a5, .ref a1, .ref a2, .ref a3, .ref a11, .ref a12, .ref a13, .int 0, .int 0, .ref a14, .ref a15, .int 0, .int 0, .int 0, .ref a16, .ref a17, .int 0, .int 0, .int 0, .int 0, .int 0, .ref a18, .int 0, .int 0, .int 0])), (a4, .inl (cI, 5, .inl (fun _ => 0))), (a5, .inl (cI, 30, .inl (fun _ => 0))), (a1, .inl (cI, 150, .inl (fun _ => 0)))] H := hP
  have hD : va_D AA [(a2, .inl (cI, 25, .inl (fun _ => 0))), (a3, .inl (cI, 600, .inl (fun _ => 0))), (a0, .inr (10, [.int 0, .ref a6, .ref a7, .ref a8, .ref a9, .ref a10, .int 0, .int 0, .int 0, .int 0, .int 0, .long 0, .int 0, .int (-1), .int 0, .int (-1), .ref a4, .ref a5, .ref a1, .ref a2, .ref a3, .ref a11, .ref a12, .ref a13, .int 0, .int 0, .ref a14, .ref a15, .int 0, .int 0, .int 0, .ref a16, .ref a17, .int 0, .int 0, .int 0, .int 0, .int 0, .ref a18, .int 0, .int 0, .int 0])), (a4, .inl (cI, 5, .inl (fun _ => 0))), (a5, .inl (cI, 30, .inl (fun _ => 0))), (a1, .inl (cI, 150, .inl (fun _ => 0)))] := hD
  refine W.cs (cells' := 0) (slots' := 0) rfl rfl ?_
  refine lv_aload_n hx hb dX10_copyTown_32 rfl (lv_at hl 0 rfl) ?_
  refine va_get (D := D) (ci := 10) (v := .ref a2) (C := RX10) (T := TX10) (N := 42) hx hb hts (fun w h => uc_in w (inX10 w h)) hown hK hP 2 rfl rfl 19 (by decide) (hts _ (uc_in _ q_f1207)) (fun _ h9 => h9) rfl dX10_copyTown_33 ?_
  refine lv_iconst (v := 5) hx hb dX10_copyTown_36 (by decide) ?_
  refine lv_iload_n hx hb dX10_copyTown_37 rfl (lv_at hl 1 rfl) ?_
  refine lv_iload_n hx hb dX10_copyTown_38 rfl (lv_at hl 2 rfl) ?_
  refine csV (n := 4) (As := [.ref a2, .int 5, .int 4, .int 0]) (rest := []) (wr := [(a3, .inl (cI, 600, .inl (fun _ => 0))), (a0, .inr (10, [.int 0, .ref a6, .ref a7, .ref a8, .ref a9, .ref a10, .int 0, .int 0, .int 0, .int 0, .int 0, .long 0, .int 0, .int (-1), .int 0, .int (-1), .ref a4, .ref a5, .ref a1, .ref a2, .ref a3, .ref a11, .ref a12, .ref a13, .int 0, .int 0, .ref a14, .ref a15, .int 0, .int 0, .int 0, .ref a16, .ref a17, .int 0, .int 0, .int 0, .int 0, .int 0, .ref a18, .int 0, .int 0, .int 0])), (a4, .inl (cI, 5, .inl (fun _ => 0))), (a5, .inl (cI, 30, .inl (fun _ => 0))), (a1, .inl (cI, 150, .inl (fun _ => 0)))]) ⟨hx, hb, hml, hown, hts⟩ uc_in (kX10_copyRow_3 l D cB cI cJ cZ cT cR a2 H.size) q_m1453 q_s1454 q_i11 q_c1455 (by decide +kernel) ⟨(Nat.le_of_ble_eq_true rfl), (Nat.le_of_ble_eq_true rfl)⟩ ⟨(Nat.le_of_ble_eq_true rfl), (Nat.le_of_ble_eq_true rfl)⟩ hE hK hP hD hS hA [0] [1, 2, 3, 4, 5] rfl rfl rfl rfl (by decide) rfl hl.1 rfl (Nat.le_of_ble_eq_true rfl) dX10_copyTown_39 (fun u H locs hpo hP hD hS => ?_)
  have hP : va_P D vwCl [(a3, .inl (cI, 600, .inl (fun _ => 0))), (a0, .inr (10, [.int 0, .ref a6, .ref a7, .ref a8, .ref a9, .ref a10, .int 0, .int 0, .int 0, .int 0, .int 0, .long 0, .int 0, .int (-1), .int 0, .int (-1), .ref a4, .ref a5, .ref a1, .ref a2, .ref a3, .ref a11, .ref a12, .ref a13, .int 0, .int 0, .ref a14, .ref a15, .int 0, .int 0, .int 0, .ref a16, .ref a17, .int 0, .int 0, .int 0, .int 0, .int 0, .ref a18, .int 0, .int 0, .int 0])), (a4, .inl (cI, 5, .inl (fun _ => 0))), (a5, .inl (cI, 30, .inl (fun _ => 0))), (a1, .inl (cI, 150, .inl (fun _ => 0))), (a2, .inl (cI, 25, .inl (fun _ => 0)))] H := hP
  have hD : va_D AA [(a3, .inl (cI, 600, .inl (fun _ => 0))), (a0, .inr (10, [.int 0, .ref a6, .ref a7, .ref a8, .ref a9, .ref a10, .int 0, .int 0, .int 0, .int 0, .int 0, .long 0, .int 0, .int (-1), .int 0, .int (-1), .ref a4, .ref a5, .ref a1, .ref a2, .ref a3, .ref a11, .ref a12, .ref a13, .int 0, .int 0, .ref a14, .ref a15, .int 0, .int 0, .int 0, .ref a16, .ref a17, .int 0, .int 0, .int 0, .int 0, .int 0, .ref a18, .int 0, .int 0, .int 0])), (a4, .inl (cI, 5, .inl (fun _ => 0))), (a5, .inl (cI, 30, .inl (fun _ => 0))), (a1, .inl (cI, 150, .inl (fun _ => 0))), (a2, .inl (cI, 25, .inl (fun _ => 0)))] := hD
  refine W.cs (cells' := 0) (slots' := 0) rfl rfl ?_
  refine lv_aload_n hx hb dX10_copyTown_42 rfl (lv_at hl 0 rfl) ?_
  refine va_get (D := D) (ci := 10) (v := .ref a3) (C := RX10) (T := TX10) (N := 42) hx hb hts (fun w h => uc_in w (inX10 w h)) hown hK hP 1 rfl rfl 20 (by decide) (hts _ (uc_in _ q_f1208)) (fun _ h9 => h9) rfl dX10_copyTown_43 ?_
  refine lv_bipush (v := 120) hx hb dX10_copyTown_46 (by decide) ?_
  refine lv_iload_n hx hb dX10_copyTown_48 rfl (lv_at hl 1 rfl) ?_
  refine lv_iload_n hx hb dX10_copyTown_49 rfl (lv_at hl 2 rfl) ?_
  refine csV (n := 4) (As := [.ref a3, .int 120, .int 4, .int 0]) (rest := []) (wr := [(a0, .inr (10, [.int 0, .ref a6, .ref a7, .ref a8, .ref a9, .ref a10, .int 0, .int 0, .int 0, .int 0, .int 0, .long 0, .int 0, .int (-1), .int 0, .int (-1), .ref a4, .ref a5, .ref a1, .ref a2, .ref a3, .ref a11, .ref a12, .ref a13, .int 0, .int 0, .ref a14, .ref a15, .int 0, .int 0, .int 0, .ref a16, .ref a17, .int 0, .int 0, .int 0, .int 0, .int 0, .ref a18, .int 0, .int 0, .int 0])), (a4, .inl (cI, 5, .inl (fun _ => 0))), (a5, .inl (cI, 30, .inl (fun _ => 0))), (a1, .inl (cI, 150, .inl (fun _ => 0))), (a2, .inl (cI, 25, .inl (fun _ => 0)))]) ⟨hx, hb, hml, hown, hts⟩ uc_in (kX10_copyRow_4 l D cB cI cJ cZ cT cR a3 H.size) q_m1453 q_s1454 q_i11 q_c1455 (by decide +kernel) ⟨(Nat.le_of_ble_eq_true rfl), (Nat.le_of_ble_eq_true rfl)⟩ ⟨(Nat.le_of_ble_eq_true rfl), (Nat.le_of_ble_eq_true rfl)⟩ hE hK hP hD hS hA [0] [1, 2, 3, 4, 5] rfl rfl rfl rfl (by decide) rfl hl.1 rfl (Nat.le_of_ble_eq_true rfl) dX10_copyTown_50 (fun u H locs hpo hP hD hS => ?_)
  have hP : va_P D vwCl [(a0, .inr (10, [.int 0, .ref a6, .ref a7, .ref a8, .ref a9, .ref a10, .int 0, .int 0, .int 0, .int 0, .int 0, .long 0, .int 0, .int (-1), .int 0, .int (-1), .ref a4, .ref a5, .ref a1, .ref a2, .ref a3, .ref a11, .ref a12, .ref a13, .int 0, .int 0, .ref a14, .ref a15, .int 0, .int 0, .int 0, .ref a16, .ref a17, .int 0, .int 0, .int 0, .int 0, .int 0, .ref a18, .int 0, .int 0, .int 0])), (a4, .inl (cI, 5, .inl (fun _ => 0))), (a5, .inl (cI, 30, .inl (fun _ => 0))), (a1, .inl (cI, 150, .inl (fun _ => 0))), (a2, .inl (cI, 25, .inl (fun _ => 0))), (a3, .inl (cI, 600, .inl (fun _ => 0)))] H := hP
  have hD : va_D AA [(a0, .inr (10, [.int 0, .ref a6, .ref a7, .ref a8, .ref a9, .ref a10, .int 0, .int 0, .int 0, .int 0, .int 0, .long 0, .int 0, .int (-1), .int 0, .int (-1), .ref a4, .ref a5, .ref a1, .ref a2, .ref a3, .ref a11, .ref a12, .ref a13, .int 0, .int 0, .ref a14, .ref a15, .int 0, .int 0, .int 0, .ref a16, .ref a17, .int 0, .int 0, .int 0, .int 0, .int 0, .ref a18, .int 0, .int 0, .int 0])), (a4, .inl (cI, 5, .inl (fun _ => 0))), (a5, .inl (cI, 30, .inl (fun _ => 0))), (a1, .inl (cI, 150, .inl (fun _ => 0))), (a2, .inl (cI, 25, .inl (fun _ => 0))), (a3, .inl (cI, 600, .inl (fun _ => 0)))] := hD
  refine W.cs (cells' := 0) (slots' := 0) rfl rfl ?_
  have hD8 : va_D (va_A [(a1, .inl (cI, 150, .inl (fun _ => 0))), (a2, .inl (cI, 25, .inl (fun _ => 0))), (a3, .inl (cI, 600, .inl (fun _ => 0))), (a4, .inl (cI, 5, .inl (fun _ => 0))), (a5, .inl (cI, 30, .inl (fun _ => 0))), (a0, .inr (10, [.int 0, .ref a6, .ref a7, .ref a8, .ref a9, .ref a10, .int 0, .int 0, .int 0, .int 0, .int 0, .long 0, .int 0, .int (-1), .int 0, .int (-1), .ref a4, .ref a5, .ref a1, .ref a2, .ref a3, .ref a11, .ref a12, .ref a13, .int 0, .int 0, .ref a14, .ref a15, .int 0, .int 0, .int 0, .ref a16, .ref a17, .int 0, .int 0, .int 0, .int 0, .int 0, .ref a18, .int 0, .int 0, .int 0]))] s.heap.size) [(a0, .inr (10, [.int 0, .ref a6, .ref a7, .ref a8, .ref a9, .ref a10, .int 0, .int 0, .int 0, .int 0, .int 0, .long 0, .int 0, .int (-1), .int 0, .int (-1), .ref a4, .ref a5, .ref a1, .ref a2, .ref a3, .ref a11, .ref a12, .ref a13, .int 0, .int 0, .ref a14, .ref a15, .int 0, .int 0, .int 0, .ref a16, .ref a17, .int 0, .int 0, .int 0, .int 0, .int 0, .ref a18, .int 0, .int 0, .int 0])), (a4, .inl (cI, 5, .inl (fun _ => 0))), (a5, .inl (cI, 30, .inl (fun _ => 0))), (a1, .inl (cI, 150, .inl (fun _ => 0))), (a2, .inl (cI, 25, .inl (fun _ => 0))), (a3, .inl (cI, 600, .inl (fun _ => 0)))] := by rw [← hAe]; exact hD
  have hS8 : va_S (va_A [(a1, .inl (cI, 150, .inl (fun _ => 0))), (a2, .inl (cI, 25, .inl (fun _ => 0))), (a3, .inl (cI, 600, .inl (fun _ => 0))), (a4, .inl (cI, 5, .inl (fun _ => 0))), (a5, .inl (cI, 30, .inl (fun _ => 0))), (a0, .inr (10, [.int 0, .ref a6, .ref a7, .ref a8, .ref a9, .ref a10, .int 0, .int 0, .int 0, .int 0, .int 0, .long 0, .int 0, .int (-1), .int 0, .int (-1), .ref a4, .ref a5, .ref a1, .ref a2, .ref a3, .ref a11, .ref a12, .ref a13, .int 0, .int 0, .ref a14, .ref a15, .int 0, .int 0, .int 0, .ref a16, .ref a17, .int 0, .int 0, .int 0, .int 0, .int 0, .ref a18, .int 0, .int 0, .int 0]))] s.heap.size) s.heap H locs := by rw [← hAe]; exact hS
  have hP9 := hP.sub (ws' := [(a0, .inr (10, [.int 0, .ref a6, .ref a7, .ref a8, .ref a9, .ref a10, .int 0, .int 0, .int 0, .int 0, .int 0, .long 0, .int 0, .int (-1), .int 0, .int (-1), .ref a4, .ref a5, .ref a1, .ref a2, .ref a3, .ref a11, .ref a12, .ref a13, .int 0, .int 0, .ref a14, .ref a15, .int 0, .int 0, .int 0, .ref a16, .ref a17, .int 0, .int 0, .int 0, .int 0, .int 0, .ref a18, .int 0, .int 0, .int 0])), (a4, .inl (cI, 5, .inl (fun _ => 0))), (a5, .inl (cI, 30, .inl (fun _ => 0))), (a1, .inl (cI, 150, .inl (fun _ => 0))), (a2, .inl (cI, 25, .inl (fun _ => 0))), (a3, .inl (cI, 600, .inl (fun _ => 0)))]) [0, 1, 2, 3, 4, 5] rfl
  have hD9 := hD8.sub (ws' := [(a0, .inr (10, [.int 0, .ref a6, .ref a7, .ref a8, .ref a9, .ref a10, .int 0, .int 0, .int 0, .int 0, .int 0, .long 0, .int 0, .int (-1), .int 0, .int (-1), .ref a4, .ref a5, .ref a1, .ref a2, .ref a3, .ref a11, .ref a12, .ref a13, .int 0, .int 0, .ref a14, .ref a15, .int 0, .int 0, .int 0, .ref a16, .ref a17, .int 0, .int 0, .int 0, .int 0, .int 0, .ref a18, .int 0, .int 0, .int 0])), (a4, .inl (cI, 5, .inl (fun _ => 0))), (a5, .inl (cI, 30, .inl (fun _ => 0))), (a1, .inl (cI, 150, .inl (fun _ => 0))), (a2, .inl (cI, 25, .inl (fun _ => 0))), (a3, .inl (cI, 600, .inl (fun _ => 0)))]) [0, 1, 2, 3, 4, 5] rfl rfl
  exact W.vret hx hb hr (fun t ht hW => ⟨⟨(), rfl, trivial, by rw [ht]; exact hP9, va_K.moved hW.alike hK, hD9⟩, hS8.F ht⟩) hS8.2.2 dX10_copyTown_53
set_option maxHeartbeats 4000000 in
set_option maxRecDepth 100000 in
theorem kX10_town_0 (l : Launch) (D : va_G) (cB cI cJ cZ cT cR : ClassId) (a0 a1 a2 a3 a4 a5 a6 a7 a8 a9 a10 a11 a12 a13 a14 a15 a16 a17 a18 : Nat) (sz : Nat) : Met l yX10_town (uc yX10_town cX10_town 1 (some .int)) (rmL 4 0 0) (va_Pc [.ref a0] (MPre D [(cB, .byte), (cI, .int), (cJ, .long), (cZ, .boolean), (cT, .object RX7), (cR, .object RX3)] [(a0, .inr (10, [.int 0, .ref a6, .ref a7, .ref a8, .ref a9, .ref a10, .int 0, .int 0, .int 0, .int 0, .int 0, .long 0, .int 0, .int 0, .int 0, .int (-1), .ref a1, .ref a2, .ref a3, .ref a4, .ref a5, .ref a11, .ref a12, .ref a13, .int 0, .int 0, .ref a14, .ref a15, .int 0, .int 0, .int 0, .ref a16, .ref a17, .int 0, .int 0, .int 0, .int 0, .int 0, .ref a18, .int 0, .int 0, .int 0])), (a1, .inl (cI, 5, .inl (fun _ => 0))), (a2, .inl (cI, 30, .inl (fun _ => 0))), (a3, .inl (cI, 150, .inl (fun _ => 0))), (a4, .inl (cI, 25, .inl (fun _ => 0))), (a5, .inl (cI, 600, .inl (fun _ => 0)))] sz)) (va_Qi (fun (r : Int32) (_ : Unit) => r = 0) (MB D [(cB, .byte), (cI, .int), (cJ, .long), (cZ, .boolean), (cT, .object RX7), (cR, .object RX3)] [(a0, .inr (10, [.int 0, .ref a6, .ref a7, .ref a8, .ref a9, .ref a10, .int 0, .int 0, .int 0, .int 0, .int 0, .long 0, .int 0, .int 0, .int 0, .int (-1), .ref a1, .ref a2, .ref a3, .ref a4, .ref a5, .ref a11, .ref a12, .ref a13, .int 0, .int 0, .ref a14, .ref a15, .int 0, .int 0, .int 0, .ref a16, .ref a17, .int 0, .int 0, .int 0, .int 0, .int 0, .ref a18, .int 0, .int 0, .int 0])), (a1, .inl (cI, 5, .inl (fun _ => 0))), (a2, .inl (cI, 30, .inl (fun _ => 0))), (a3, .inl (cI, 150, .inl (fun _ => 0))), (a4, .inl (cI, 25, .inl (fun _ => 0))), (a5, .inl (cI, 600, .inl (fun _ => 0)))] sz (fun (u : Unit) => [(a0, .inr (10, [.int 0, .ref a6, .ref a7, .ref a8, .ref a9, .ref a10, .int 0, .int 0, .int 0, .int 0, .int 0, .long 0, .int 0, .int (-1), .int 0, .int (-1), .ref a1, .ref a2, .ref a3, .ref a4, .ref a5, .ref a11, .ref a12, .ref a13, .int 0, .int 0, .ref a14, .ref a15, .int 0, .int 0, .int 0, .ref a16, .ref a17, .int 0, .int 0, .int 0, .int 0, .int 0, .ref a18, .int 0, .int 0, .int 0])), (a1, .inl (cI, 5, .inl (fun _ => 0))), (a2, .inl (cI, 30, .inl (fun _ => 0))), (a3, .inl (cI, 150, .inl (fun _ => 0))), (a4, .inl (cI, 25, .inl (fun _ => 0))), (a5, .inl (cI, 600, .inl (fun _ => 0)))])) (va_A [(a0, .inr (10, [.int 0, .ref a6, .ref a7, .ref a8, .ref a9, .ref a10, .int 0, .int 0, .int 0, .int 0, .int 0, .long 0, .int 0, .int 0, .int 0, .int (-1), .ref a1, .ref a2, .ref a3, .ref a4, .ref a5, .ref a11, .ref a12, .ref a13, .int 0, .int 0, .ref a14, .ref a15, .int 0, .int 0, .int 0, .ref a16, .ref a17, .int 0, .int 0, .int 0, .int 0, .int 0, .ref a18, .int 0, .int 0, .int 0])), (a1, .inl (cI, 5, .inl (fun _ => 0))), (a2, .inl (cI, 30, .inl (fun _ => 0))), (a3, .inl (cI, 150, .inl (fun _ => 0))), (a4, .inl (cI, 25, .inl (fun _ => 0))), (a5, .inl (cI, 600, .inl (fun _ => 0)))] sz)) 0 0 (va_A [(a0, .inr (10, [.int 0, .ref a6, .ref a7, .ref a8, .ref a9, .ref a10, .int 0, .int 0, .int 0, .int 0, .int 0, .long 0, .int 0, .int 0, .int 0, .int (-1), .ref a1, .ref a2, .ref a3, .ref a4, .ref a5, .ref a11, .ref a12, .ref a13, .int 0, .int 0, .ref a14, .ref a15, .int 0, .int 0, .int 0, .ref a16, .ref a17, .int 0, .int 0, .int 0, .int 0, .int 0, .ref a18, .int 0, .int 0, .int 0])), (a1, .inl (cI, 5, .inl (fun _ => 0))), (a2, .inl (cI, 30, .inl (fun _ => 0))), (a3, .inl (cI, 150, .inl (fun _ => 0))), (a4, .inl (cI, 25, .inl (fun _ => 0))), (a5, .inl (cI, 600, .inl (fun _ => 0)))] sz) := by
  refine pm (by decide) (Nat.le_of_ble_eq_true rfl) ?_
  intro p e s m below meth c ls hx hb hr hml hown hlk hnm hts hv hl
  have hown : s.vm.findClass RX10 = some m.cls := hown
  have hl : lv_has ls 1 [(0, .ref a0)] := hl
  obtain ⟨hsz, hP, hK, hD0, hE⟩ := hv
  subst hsz
  have hD := hD0.self (sz := s.heap.size)
  obtain ⟨AA, hAe⟩ : ∃ AA, AA = va_A [(a0, .inr (10, [.int 0, .ref a6, .ref a7, .ref a8, .ref a9, .ref a10, .int 0, .int 0, .int 0, .int 0, .int 0, .long 0, .int 0, .int 0, .int 0, .int (-1), .ref a1, .ref a2, .ref a3, .ref a4, .ref a5, .ref a11, .ref a12, .ref a13, .int 0, .int 0, .ref a14, .ref a15, .int 0, .int 0, .int 0, .ref a16, .ref a17, .int 0, .int 0, .int 0, .int 0, .int 0, .ref a18, .int 0, .int 0, .int 0])), (a1, .inl (cI, 5, .inl (fun _ => 0))), (a2, .inl (cI, 30, .inl (fun _ => 0))), (a3, .inl (cI, 150, .inl (fun _ => 0))), (a4, .inl (cI, 25, .inl (fun _ => 0))), (a5, .inl (cI, 600, .inl (fun _ => 0)))] s.heap.size := ⟨_, rfl⟩
  rw [← hAe] at hD
  have hA : ∀ q : Nat, s.heap.size ≤ q → AA q := fun q h => by rw [hAe]; exact Or.inr h
  have hS : va_S AA s.heap s.heap [] := va_S.rf
  obtain ⟨-, hAOT, hAOR, hAOI⟩ := id hE
  refine lv_aload_n hx hb dX10_town_0 rfl (lv_at hl 0 rfl) ?_
  refine lv_iconst (v := 0) hx hb dX10_town_1 (by decide) ?_
  refine va_put (D := D) (ci := 10) (v := .int 0) (ty := .int) (C := RX10) (T := TX10) (N := 42) hx hb hts (fun w h => uc_in w (inX10 w h)) tyX10 tyX10_ok nmX10 hown hK hP hD hS 0 rfl rfl 0 (by decide) (hts _ (uc_in _ q_f1188)) (fun _ h9 => h9) rfl (by decide +kernel) rfl rfl (Nat.le_of_ble_eq_true rfl) dX10_town_2 (fun H locs hP hD hS => ?_)
  have hP : va_P D vwCl [(a0, .inr (10, [.int 0, .ref a6, .ref a7, .ref a8, .ref a9, .ref a10, .int 0, .int 0, .int 0, .int 0, .int 0, .long 0, .int 0, .int 0, .int 0, .int (-1), .ref a1, .ref a2, .ref a3, .ref a4, .ref a5, .ref a11, .ref a12, .ref a13, .int 0, .int 0, .ref a14, .ref a15, .int 0, .int 0, .int 0, .ref a16, .ref a17, .int 0, .int 0, .int 0, .int 0, .int 0, .ref a18, .int 0, .int 0, .int 0])), (a1, .inl (cI, 5, .inl (fun _ => 0))), (a2, .inl (cI, 30, .inl (fun _ => 0))), (a3, .inl (cI, 150, .inl (fun _ => 0))), (a4, .inl (cI, 25, .inl (fun _ => 0))), (a5, .inl (cI, 600, .inl (fun _ => 0)))] H := hP
  have hD : va_D AA [(a0, .inr (10, [.int 0, .ref a6, .ref a7, .ref a8, .ref a9, .ref a10, .int 0, .int 0, .int 0, .int 0, .int 0, .long 0, .int 0, .int 0, .int 0, .int (-1), .ref a1, .ref a2, .ref a3, .ref a4, .ref a5, .ref a11, .ref a12, .ref a13, .int 0, .int 0, .ref a14, .ref a15, .int 0, .int 0, .int 0, .ref a16, .ref a17, .int 0, .int 0, .int 0, .int 0, .int 0, .ref a18, .int 0, .int 0, .int 0])), (a1, .inl (cI, 5, .inl (fun _ => 0))), (a2, .inl (cI, 30, .inl (fun _ => 0))), (a3, .inl (cI, 150, .inl (fun _ => 0))), (a4, .inl (cI, 25, .inl (fun _ => 0))), (a5, .inl (cI, 600, .inl (fun _ => 0)))] := hD
  refine lv_aload_n hx hb dX10_town_5 rfl (lv_at hl 0 rfl) ?_
  refine cvV (n := 0) (As := []) (rest := []) (wr := [(a3, .inl (cI, 150, .inl (fun _ => 0))), (a4, .inl (cI, 25, .inl (fun _ => 0))), (a5, .inl (cI, 600, .inl (fun _ => 0)))]) ⟨hx, hb, hml, hown, hts⟩ uc_in (kX10_clears_0 l D cB cI cJ cZ cT cR a0 a1 a2 a6 a7 a8 a9 a10 a3 a4 a5 a11 a12 a13 a14 a15 a16 a17 a18 H.size) q_m1358 q_n1360 q_p52 q_i11 q_c1361 (by decide +kernel) ⟨(Nat.le_of_ble_eq_true rfl), (Nat.le_of_ble_eq_true rfl)⟩ ⟨(Nat.le_of_ble_eq_true rfl), (Nat.le_of_ble_eq_true rfl)⟩ hE hK hP hD hS hA [0, 1, 2] [3, 4, 5] rfl rfl rfl rfl (by decide) 10 0 rfl rfl rfl hl.1 rfl (Nat.le_of_ble_eq_true rfl) dX10_town_6 (fun u H locs hpo hP hD hS => ?_)
  have hP : va_P D vwCl [(a3, .inl (cI, 150, .inl (fun _ => 0))), (a4, .inl (cI, 25, .inl (fun _ => 0))), (a5, .inl (cI, 600, .inl (fun _ => 0))), (a1, .inl (cI, 5, .inl (fun _ => 0))), (a0, .inr (10, [.int 0, .ref a6, .ref a7, .ref a8, .ref a9, .ref a10, .int 0, .int 0, .int 0, .int 0, .int 0, .long 0, .int 0, .int 0, .int 0, .int (-1), .ref a1, .ref a2, .ref a3, .ref a4, .ref a5, .ref a11, .ref a12, .ref a13, .int 0, .int 0, .ref a14, .ref a15, .int 0, .int 0, .int 0, .ref a16, .ref a17, .int 0, .int 0, .int 0, .int 0, .int 0, .ref a18, .int 0, .int 0, .int 0])), (a2, .inl (cI, 30, .inl (fun _ => 0)))] H := hP
  have hD : va_D AA [(a3, .inl (cI, 150, .inl (fun _ => 0))), (a4, .inl (cI, 25, .inl (fun _ => 0))), (a5, .inl (cI, 600, .inl (fun _ => 0))), (a1, .inl (cI, 5, .inl (fun _ => 0))), (a0, .inr (10, [.int 0, .ref a6, .ref a7, .ref a8, .ref a9, .ref a10, .int 0, .int 0, .int 0, .int 0, .int 0, .long 0, .int 0, .int 0, .int 0, .int (-1), .ref a1, .ref a2, .ref a3, .ref a4, .ref a5, .ref a11, .ref a12, .ref a13, .int 0, .int 0, .ref a14, .ref a15, .int 0, .int 0, .int 0, .ref a16, .ref a17, .int 0, .int 0, .int 0, .int 0, .int 0, .ref a18, .int 0, .int 0, .int 0])), (a2, .inl (cI, 30, .inl (fun _ => 0)))] := hD
  refine W.cs (cells' := 0) (slots' := 0) rfl rfl ?_
  refine lv_aload_n hx hb dX10_town_9 rfl (lv_at hl 0 rfl) ?_
  refine cvV (n := 0) (As := []) (rest := []) (wr := [(a3, .inl (cI, 150, .inl (fun _ => 0))), (a4, .inl (cI, 25, .inl (fun _ => 0))), (a5, .inl (cI, 600, .inl (fun _ => 0))), (a1, .inl (cI, 5, .inl (fun _ => 0))), (a2, .inl (cI, 30, .inl (fun _ => 0)))]) ⟨hx, hb, hml, hown, hts⟩ uc_in (kX10_begins_0 l D cB cI cJ cZ cT cR a0 a6 a7 a8 a9 a10 a1 a2 a3 a4 a5 a11 a12 a13 a14 a15 a16 a17 a18 H.size) q_m1366 q_n1368 q_p54 q_i11 q_c1369 (by decide +kernel) ⟨(Nat.le_of_ble_eq_true rfl), (Nat.le_of_ble_eq_true rfl)⟩ ⟨(Nat.le_of_ble_eq_true rfl), (Nat.le_of_ble_eq_true rfl)⟩ hE hK hP hD hS hA [4] [0, 1, 2, 3, 5] rfl rfl rfl rfl (by decide) 10 0 rfl rfl rfl hl.1 rfl (Nat.le_of_ble_eq_true rfl) dX10_town_10 (fun u H locs hpo hP hD hS => ?_)
  have hP : va_P D vwCl [(a3, .inl (cI, 150, .inl (fun _ => 0))), (a4, .inl (cI, 25, .inl (fun _ => 0))), (a5, .inl (cI, 600, .inl (fun _ => 0))), (a1, .inl (cI, 5, .inl (fun _ => 0))), (a2, .inl (cI, 30, .inl (fun _ => 0))), (a0, .inr (10, [.int 0, .ref a6, .ref a7, .ref a8, .ref a9, .ref a10, .int 0, .int 0, .int 0, .int 0, .int 0, .long 0, .int 0, .int (-1), .int 0, .int (-1), .ref a1, .ref a2, .ref a3, .ref a4, .ref a5, .ref a11, .ref a12, .ref a13, .int 0, .int 0, .ref a14, .ref a15, .int 0, .int 0, .int 0, .ref a16, .ref a17, .int 0, .int 0, .int 0, .int 0, .int 0, .ref a18, .int 0, .int 0, .int 0]))] H := hP
  have hD : va_D AA [(a3, .inl (cI, 150, .inl (fun _ => 0))), (a4, .inl (cI, 25, .inl (fun _ => 0))), (a5, .inl (cI, 600, .inl (fun _ => 0))), (a1, .inl (cI, 5, .inl (fun _ => 0))), (a2, .inl (cI, 30, .inl (fun _ => 0))), (a0, .inr (10, [.int 0, .ref a6, .ref a7, .ref a8, .ref a9, .ref a10, .int 0, .int 0, .int 0, .int 0, .int 0, .long 0, .int 0, .int (-1), .int 0, .int (-1), .ref a1, .ref a2, .ref a3, .ref a4, .ref a5, .ref a11, .ref a12, .ref a13, .int 0, .int 0, .ref a14, .ref a15, .int 0, .int 0, .int 0, .ref a16, .ref a17, .int 0, .int 0, .int 0, .int 0, .int 0, .ref a18, .int 0, .int 0, .int 0]))] := hD
  refine W.cs (cells' := 0) (slots' := 0) rfl rfl ?_
  refine lv_aload_n hx hb dX10_town_13 rfl (lv_at hl 0 rfl) ?_
  refine cvR (n := 0) (As := []) (rest := []) ⟨hx, hb, hml, hown, hts⟩ uc_in (kX10_isGood_0 l D cB cI cJ cZ cT cR a0 a6 a7 a8 a9 a10 a1 a2 a3 a4 a5 a11 a12 a13 a14 a15 a16 a17 a18) q_m1383 q_n1385 q_p57 q_i11 q_c1386 (by decide +kernel) ⟨(Nat.le_of_ble_eq_true rfl), (Nat.le_of_ble_eq_true rfl)⟩ ⟨(Nat.le_of_ble_eq_true rfl), (Nat.le_of_ble_eq_true rfl)⟩ hK (hP.sub (ws' := [(a0, .inr (10, [.int 0, .ref a6, .ref a7, .ref a8, .ref a9, .ref a10, .int 0, .int 0, .int 0, .int 0, .int 0, .long 0, .int 0, .int (-1), .int 0, .int (-1), .ref a1, .ref a2, .ref a3, .ref a4, .ref a5, .ref a11, .ref a12, .ref a13, .int 0, .int 0, .ref a14, .ref a15, .int 0, .int 0, .int 0, .ref a16, .ref a17, .int 0, .int 0, .int 0, .int 0, .int 0, .ref a18, .int 0, .int 0, .int 0]))]) [5] rfl) 10 0 rfl rfl rfl hl.1 rfl (Nat.le_of_ble_eq_true rfl) dX10_town_14 ?_
  refine lv_if_eq (tgt := 119) hx hb dX10_town_17 (by decide) (fun c9 => absurd c9 (by decide)) (fun _ => ?_)
  refine lv_aload_n hx hb dX10_town_20 rfl (lv_at hl 0 rfl) ?_
  refine va_get (D := D) (ci := 10) (v := .int 0) (C := RX10) (T := TX10) (N := 42) hx hb hts (fun w h => uc_in w (inX10 w h)) hown hK hP 5 rfl rfl 8 (by decide) (hts _ (uc_in _ q_f1196)) (fun _ h9 => h9) rfl dX10_town_21 ?_
  refine lv_if_eq (tgt := 119) hx hb dX10_town_24 (by decide) (fun _ => ?_) (fun c9 => absurd (by decide) c9)
  refine lv_aload_n hx hb dX10_town_119 rfl (lv_at hl 0 rfl) ?_
  refine cvV (n := 0) (As := []) (rest := []) (wr := [(a3, .inl (cI, 150, .inl (fun _ => 0))), (a4, .inl (cI, 25, .inl (fun _ => 0))), (a5, .inl (cI, 600, .inl (fun _ => 0))), (a1, .inl (cI, 5, .inl (fun _ => 0))), (a2, .inl (cI, 30, .inl (fun _ => 0)))]) ⟨hx, hb, hml, hown, hts⟩ uc_in (kX10_isOver_0 l D cB cI cJ cZ cT cR a0 a6 a7 a8 a9 a10 a1 a2 a3 a4 a5 a11 a12 a13 a14 a15 a16 a17 a18 H.size) q_m1445 q_n1447 q_p69 q_i11 q_c1448 (by decide +kernel) ⟨(Nat.le_of_ble_eq_true rfl), (Nat.le_of_ble_eq_true rfl)⟩ ⟨(Nat.le_of_ble_eq_true rfl), (Nat.le_of_ble_eq_true rfl)⟩ hE hK hP hD hS hA [5] [0, 1, 2, 3, 4] rfl rfl rfl rfl (by decide) 10 0 rfl rfl rfl hl.1 rfl (Nat.le_of_ble_eq_true rfl) dX10_town_120 (fun u H locs hpo hP hD hS => ?_)
  have hP : va_P D vwCl [(a3, .inl (cI, 150, .inl (fun _ => 0))), (a4, .inl (cI, 25, .inl (fun _ => 0))), (a5, .inl (cI, 600, .inl (fun _ => 0))), (a1, .inl (cI, 5, .inl (fun _ => 0))), (a2, .inl (cI, 30, .inl (fun _ => 0))), (a0, .inr (10, [.int 0, .ref a6, .ref a7, .ref a8, .ref a9, .ref a10, .int 0, .int 0, .int 0, .int 0, .int 0, .long 0, .int 0, .int (-1), .int 0, .int (-1), .ref a1, .ref a2, .ref a3, .ref a4, .ref a5, .ref a11, .ref a12, .ref a13, .int 0, .int 0, .ref a14, .ref a15, .int 0, .int 0, .int 0, .ref a16, .ref a17, .int 0, .int 0, .int 0, .int 0, .int 0, .ref a18, .int 0, .int 0, .int 0]))] H := hP
  have hD : va_D AA [(a3, .inl (cI, 150, .inl (fun _ => 0))), (a4, .inl (cI, 25, .inl (fun _ => 0))), (a5, .inl (cI, 600, .inl (fun _ => 0))), (a1, .inl (cI, 5, .inl (fun _ => 0))), (a2, .inl (cI, 30, .inl (fun _ => 0))), (a0, .inr (10, [.int 0, .ref a6, .ref a7, .ref a8, .ref a9, .ref a10, .int 0, .int 0, .int 0, .int 0, .int 0, .long 0, .int 0, .int (-1), .int 0, .int (-1), .ref a1, .ref a2, .ref a3, .ref a4, .ref a5, .ref a11, .ref a12, .ref a13, .int 0, .int 0, .ref a14, .ref a15, .int 0, .int 0, .int 0, .ref a16, .ref a17, .int 0, .int 0, .int 0, .int 0, .int 0, .ref a18, .int 0, .int 0, .int 0]))] := hD
  refine W.cs (cells' := 0) (slots' := 0) rfl rfl ?_
  refine lv_aload_n hx hb dX10_town_123 rfl (lv_at hl 0 rfl) ?_
  refine va_get (D := D) (ci := 10) (v := .int 0) (C := RX10) (T := TX10) (N := 42) hx hb hts (fun w h => uc_in w (inX10 w h)) hown hK hP 5 rfl rfl 12 (by decide) (hts _ (uc_in _ q_f1200)) (fun _ h9 => h9) rfl dX10_town_124 ?_
  refine lv_if_eq (tgt := 133) hx hb dX10_town_127 (by decide) (fun _ => ?_) (fun c9 => absurd (by decide) c9)
  refine lv_aload_n hx hb dX10_town_133 rfl (lv_at hl 0 rfl) ?_
  refine lv_iconst (v := 4) hx hb dX10_town_134 (by decide) ?_
  refine lv_iconst (v := 0) hx hb dX10_town_135 (by decide) ?_
  refine cvV (n := 2) (As := [.int 4, .int 0]) (rest := []) (wr := []) ⟨hx, hb, hml, hown, hts⟩ uc_in (kX10_copyTown_0 l D cB cI cJ cZ cT cR a0 a3 a4 a5 a1 a2 a6 a7 a8 a9 a10 a11 a12 a13 a14 a15 a16 a17 a18 H.size) q_m1449 q_n1451 q_p70 q_i11 q_c1452 (by decide +kernel) ⟨(Nat.le_of_ble_eq_true rfl), (Nat.le_of_ble_eq_true rfl)⟩ ⟨(Nat.le_of_ble_eq_true rfl), (Nat.le_of_ble_eq_true rfl)⟩ hE hK hP hD hS hA [0, 1, 2, 3, 4, 5] [] rfl rfl rfl rfl (by decide) 10 5 rfl rfl rfl hl.1 rfl (Nat.le_of_ble_eq_true rfl) dX10_town_136 (fun u H locs hpo hP hD hS => ?_)
  have hP : va_P D vwCl [(a0, .inr (10, [.int 0, .ref a6, .ref a7, .ref a8, .ref a9, .ref a10, .int 0, .int 0, .int 0, .int 0, .int 0, .long 0, .int 0, .int (-1), .int 0, .int (-1), .ref a1, .ref a2, .ref a3, .ref a4, .ref a5, .ref a11, .ref a12, .ref a13, .int 0, .int 0, .ref a14, .ref a15, .int 0, .int 0, .int 0, .ref a16, .ref a17, .int 0, .int 0, .int 0, .int 0, .int 0, .ref a18, .int 0, .int 0, .int 0])), (a1, .inl (cI, 5, .inl (fun _ => 0))), (a2, .inl (cI, 30, .inl (fun _ => 0))), (a3, .inl (cI, 150, .inl (fun _ => 0))), (a4, .inl (cI, 25, .inl (fun _ => 0))), (a5, .inl (cI, 600, .inl (fun _ => 0)))] H := hP
  have hD : va_D AA [(a0, .inr (10, [.int 0, .ref a6, .ref a7, .ref a8, .ref a9, .ref a10, .int 0, .int 0, .int 0, .int 0, .int 0, .long 0, .int 0, .int (-1), .int 0, .int (-1), .ref a1, .ref a2, .ref a3, .ref a4, .ref a5, .ref a11, .ref a12, .ref a13, .int 0, .int 0, .ref a14, .ref a15, .int 0, .int 0, .int 0, .ref a16, .ref a17, .int 0, .int 0, .int 0, .int 0, .int 0, .ref a18, .int 0, .int 0, .int 0])), (a1, .inl (cI, 5, .inl (fun _ => 0))), (a2, .inl (cI, 30, .inl (fun _ => 0))), (a3, .inl (cI, 150, .inl (fun _ => 0))), (a4, .inl (cI, 25, .inl (fun _ => 0))), (a5, .inl (cI, 600, .inl (fun _ => 0)))] := hD
  refine W.cs (cells' := 0) (slots' := 0) rfl rfl ?_
  refine lv_aload_n hx hb dX10_town_139 rfl (lv_at hl 0 rfl) ?_
  refine va_get (D := D) (ci := 10) (v := .ref a1) (C := RX10) (T := TX10) (N := 42) hx hb hts (fun w h => uc_in w (inX10 w h)) hown hK hP 0 rfl rfl 16 (by decide) (hts _ (uc_in _ q_f1204)) (fun _ h9 => h9) rfl dX10_town_140 ?_
  refine lv_iconst (v := 0) hx hb dX10_town_143 (by decide) ?_
  refine va_iald hx hb hK hP 1 1 rfl rfl (vp_in_iff.mpr ⟨by decide, by decide⟩) dX10_town_144 ?_
  refine pv_i (v := 0) rfl ?_
  have hD8 : va_D (va_A [(a0, .inr (10, [.int 0, .ref a6, .ref a7, .ref a8, .ref a9, .ref a10, .int 0, .int 0, .int 0, .int 0, .int 0, .long 0, .int 0, .int 0, .int 0, .int (-1), .ref a1, .ref a2, .ref a3, .ref a4, .ref a5, .ref a11, .ref a12, .ref a13, .int 0, .int 0, .ref a14, .ref a15, .int 0, .int 0, .int 0, .ref a16, .ref a17, .int 0, .int 0, .int 0, .int 0, .int 0, .ref a18, .int 0, .int 0, .int 0])), (a1, .inl (cI, 5, .inl (fun _ => 0))), (a2, .inl (cI, 30, .inl (fun _ => 0))), (a3, .inl (cI, 150, .inl (fun _ => 0))), (a4, .inl (cI, 25, .inl (fun _ => 0))), (a5, .inl (cI, 600, .inl (fun _ => 0)))] s.heap.size) [(a0, .inr (10, [.int 0, .ref a6, .ref a7, .ref a8, .ref a9, .ref a10, .int 0, .int 0, .int 0, .int 0, .int 0, .long 0, .int 0, .int (-1), .int 0, .int (-1), .ref a1, .ref a2, .ref a3, .ref a4, .ref a5, .ref a11, .ref a12, .ref a13, .int 0, .int 0, .ref a14, .ref a15, .int 0, .int 0, .int 0, .ref a16, .ref a17, .int 0, .int 0, .int 0, .int 0, .int 0, .ref a18, .int 0, .int 0, .int 0])), (a1, .inl (cI, 5, .inl (fun _ => 0))), (a2, .inl (cI, 30, .inl (fun _ => 0))), (a3, .inl (cI, 150, .inl (fun _ => 0))), (a4, .inl (cI, 25, .inl (fun _ => 0))), (a5, .inl (cI, 600, .inl (fun _ => 0)))] := by rw [← hAe]; exact hD
  have hS8 : va_S (va_A [(a0, .inr (10, [.int 0, .ref a6, .ref a7, .ref a8, .ref a9, .ref a10, .int 0, .int 0, .int 0, .int 0, .int 0, .long 0, .int 0, .int 0, .int 0, .int (-1), .ref a1, .ref a2, .ref a3, .ref a4, .ref a5, .ref a11, .ref a12, .ref a13, .int 0, .int 0, .ref a14, .ref a15, .int 0, .int 0, .int 0, .ref a16, .ref a17, .int 0, .int 0, .int 0, .int 0, .int 0, .ref a18, .int 0, .int 0, .int 0])), (a1, .inl (cI, 5, .inl (fun _ => 0))), (a2, .inl (cI, 30, .inl (fun _ => 0))), (a3, .inl (cI, 150, .inl (fun _ => 0))), (a4, .inl (cI, 25, .inl (fun _ => 0))), (a5, .inl (cI, 600, .inl (fun _ => 0)))] s.heap.size) s.heap H locs := by rw [← hAe]; exact hS
  have hP9 := hP.sub (ws' := [(a0, .inr (10, [.int 0, .ref a6, .ref a7, .ref a8, .ref a9, .ref a10, .int 0, .int 0, .int 0, .int 0, .int 0, .long 0, .int 0, .int (-1), .int 0, .int (-1), .ref a1, .ref a2, .ref a3, .ref a4, .ref a5, .ref a11, .ref a12, .ref a13, .int 0, .int 0, .ref a14, .ref a15, .int 0, .int 0, .int 0, .ref a16, .ref a17, .int 0, .int 0, .int 0, .int 0, .int 0, .ref a18, .int 0, .int 0, .int 0])), (a1, .inl (cI, 5, .inl (fun _ => 0))), (a2, .inl (cI, 30, .inl (fun _ => 0))), (a3, .inl (cI, 150, .inl (fun _ => 0))), (a4, .inl (cI, 25, .inl (fun _ => 0))), (a5, .inl (cI, 600, .inl (fun _ => 0)))]) [0, 1, 2, 3, 4, 5] rfl
  have hD9 := hD8.sub (ws' := [(a0, .inr (10, [.int 0, .ref a6, .ref a7, .ref a8, .ref a9, .ref a10, .int 0, .int 0, .int 0, .int 0, .int 0, .long 0, .int 0, .int (-1), .int 0, .int (-1), .ref a1, .ref a2, .ref a3, .ref a4, .ref a5, .ref a11, .ref a12, .ref a13, .int 0, .int 0, .ref a14, .ref a15, .int 0, .int 0, .int 0, .ref a16, .ref a17, .int 0, .int 0, .int 0, .int 0, .int 0, .ref a18, .int 0, .int 0, .int 0])), (a1, .inl (cI, 5, .inl (fun _ => 0))), (a2, .inl (cI, 30, .inl (fun _ => 0))), (a3, .inl (cI, 150, .inl (fun _ => 0))), (a4, .inl (cI, 25, .inl (fun _ => 0))), (a5, .inl (cI, 600, .inl (fun _ => 0)))]) [0, 1, 2, 3, 4, 5] rfl rfl
  exact W.iret hx hb hr (fun t ht hW => ⟨⟨0, (), rfl, rfl, by rw [ht]; exact hP9, va_K.moved hW.alike hK, hD9⟩, hS8.F ht⟩) hS8.2.2 dX10_town_145
set_option maxHeartbeats 4000000 in
set_option maxRecDepth 100000 in
theorem law_case_2 {p : Program} {l : Launch} {e : Env} {s : State} {m : MethodId} {below : List Frame} {meth : Method} {c : Code} {D : va_G} {cB cI cJ cZ cT cR : ClassId} {b : Nat} {xs : Nat → Int32} {A B : Nat → Nat} {H : Heap} {locs : List Loc} {ls : Array Slot} (C0 : lw_At p s m meth c b 6 xs) (hE : EX s) (hK : va_K D vwCl [(cB, .byte), (cI, .int), (cJ, .long), (cZ, .boolean), (cT, .object RX7), (cR, .object RX3)] s) (hP : va_P D vwCl (fwAll cB cI cJ cZ cT cR A B) H) (hD : va_D (fun q : Nat => s.heap.size ≤ q) (fwAll cB cI cJ cZ cT cR A B)) (hS : va_S (fun q : Nat => s.heap.size ≤ q) s.heap H locs) (hl : lv_has ls 4 [(3, .int 0), (2, .ref (B 0)), (1, .ref (A 0)), (0, .ref b)]) : W p l e room_1 s m #[Value.ref b] below meth c H locs 180 4779 (lw_Z below #[Value.ref b] s) (F0 m 422 ls []) := by
  obtain ⟨hx, hb, hr, hml, hown, hts, hX, hbl, hlocks, hgv⟩ := id C0
  have hown : s.vm.findClass RL = some m.cls := hown
  have hb : c.code = cL_law := hb
  have hA : ∀ q : Nat, s.heap.size ≤ q → (fun q : Nat => s.heap.size ≤ q) q := fun _ h => h
  have hbA : ¬ (fun q : Nat => s.heap.size ≤ q) b := Nat.not_le.mpr hbl
  have hP := hP.sub (ws' := [((A 0), .inr (9, [.ref (A 1), .ref (A 3), .ref (A 12), .ref (A 21), .int 0, .ref (A 49), .ref (A 51), .ref (A 60), .ref (A 61), .ref (A 62), .ref (A 63), .ref (A 64)])), ((A 1), .inr (6, [.ref (A 2), .int 0, .int 0, .int (-1), .int 0, .int 0, .int 0, .int 0])), ((A 3), .inr (7, [.int 0, .int 0, .int 0, .int 0, .int 0, .int 0, .int 0, .int 0, .ref (A 4), .ref (A 5), .ref (A 6), .ref (A 7), .ref (A 8), .ref (A 9), .ref (A 10), .ref (A 11)])), ((A 4), .inl (cI, 6, .inl (fun _ => 0))), ((A 5), .inl (cI, 6, .inl (fun _ => 0))), ((A 6), .inl (cI, 6, .inl (fun _ => 0))), ((A 7), .inl (cI, 6, .inl (fun _ => 0))), ((A 8), .inl (cI, 6, .inl (fun _ => 0))), ((A 9), .inl (cI, 40, .inl (fun _ => 0))), ((A 10), .inl (cI, 40, .inl (fun _ => 0))), ((A 11), .inl (cI, 40, .inl (fun _ => 0))), ((A 12), .inr (7, [.int 0, .int 0, .int 0, .int 0, .int 0, .int 0, .int 0, .int 0, .ref (A 13), .ref (A 14), .ref (A 15), .ref (A 16), .ref (A 17), .ref (A 18), .ref (A 19), .ref (A 20)])), ((A 13), .inl (cI, 6, .inl (fun _ => 0))), ((A 14), .inl (cI, 6, .inl (fun _ => 0))), ((A 15), .inl (cI, 6, .inl (fun _ => 0))), ((A 16), .inl (cI, 6, .inl (fun _ => 0))), ((A 17), .inl (cI, 6, .inl (fun _ => 0))), ((A 18), .inl (cI, 40, .inl (fun _ => 0))), ((A 19), .inl (cI, 40, .inl (fun _ => 0))), ((A 20), .inl (cI, 40, .inl (fun _ => 0))), ((A 49), .inr (5, [.int 0, .int 0, .ref (A 65), .ref (A 50)])), ((A 50), .inl (cI, 7, .inl (fun _ => 0))), ((B 0), .inr (10, [.int 0, .ref (B 1), .ref (B 2), .ref (B 3), .ref (B 4), .ref (B 5), .int 0, .int 0, .int 0, .int 0, .int 0, .long 0, .int 0, .int 0, .int 0, .int (-1), .ref (B 6), .ref (B 7), .ref (B 8), .ref (B 9), .ref (B 10), .ref (B 11), .ref (B 12), .ref (B 13), .int 0, .int 0, .ref (B 14), .ref (B 15), .int 0, .int 0, .int 0, .ref (B 16), .ref (B 17), .int 0, .int 0, .int 0, .int 0, .int 0, .ref (B 18), .int 0, .int 0, .int 0])), ((B 6), .inl (cI, 5, .inl (fun _ => 0))), ((B 7), .inl (cI, 30, .inl (fun _ => 0))), ((B 8), .inl (cI, 150, .inl (fun _ => 0))), ((B 9), .inl (cI, 25, .inl (fun _ => 0))), ((B 10), .inl (cI, 600, .inl (fun _ => 0)))]) [0, 1, 3, 4, 5, 6, 7, 8, 9, 10, 11, 12, 13, 14, 15, 16, 17, 18, 19, 20, 49, 50, 60, 66, 67, 68, 69, 70] rfl
  have hD := hD.sub (ws' := [((A 0), .inr (9, [.ref (A 1), .ref (A 3), .ref (A 12), .ref (A 21), .int 0, .ref (A 49), .ref (A 51), .ref (A 60), .ref (A 61), .ref (A 62), .ref (A 63), .ref (A 64)])), ((A 1), .inr (6, [.ref (A 2), .int 0, .int 0, .int (-1), .int 0, .int 0, .int 0, .int 0])), ((A 3), .inr (7, [.int 0, .int 0, .int 0, .int 0, .int 0, .int 0, .int 0, .int 0, .ref (A 4), .ref (A 5), .ref (A 6), .ref (A 7), .ref (A 8), .ref (A 9), .ref (A 10), .ref (A 11)])), ((A 4), .inl (cI, 6, .inl (fun _ => 0))), ((A 5), .inl (cI, 6, .inl (fun _ => 0))), ((A 6), .inl (cI, 6, .inl (fun _ => 0))), ((A 7), .inl (cI, 6, .inl (fun _ => 0))), ((A 8), .inl (cI, 6, .inl (fun _ => 0))), ((A 9), .inl (cI, 40, .inl (fun _ => 0))), ((A 10), .inl (cI, 40, .inl (fun _ => 0))), ((A 11), .inl (cI, 40, .inl (fun _ => 0))), ((A 12), .inr (7, [.int 0, .int 0, .int 0, .int 0, .int 0, .int 0, .int 0, .int 0, .ref (A 13), .ref (A 14), .ref (A 15), .ref (A 16), .ref (A 17), .ref (A 18), .ref (A 19), .ref (A 20)])), ((A 13), .inl (cI, 6, .inl (fun _ => 0))), ((A 14), .inl (cI, 6, .inl (fun _ => 0))), ((A 15), .inl (cI, 6, .inl (fun _ => 0))), ((A 16), .inl (cI, 6, .inl (fun _ => 0))), ((A 17), .inl (cI, 6, .inl (fun _ => 0))), ((A 18), .inl (cI, 40, .inl (fun _ => 0))), ((A 19), .inl (cI, 40, .inl (fun _ => 0))), ((A 20), .inl (cI, 40, .inl (fun _ => 0))), ((A 49), .inr (5, [.int 0, .int 0, .ref (A 65), .ref (A 50)])), ((A 50), .inl (cI, 7, .inl (fun _ => 0))), ((B 0), .inr (10, [.int 0, .ref (B 1), .ref (B 2), .ref (B 3), .ref (B 4), .ref (B 5), .int 0, .int 0, .int 0, .int 0, .int 0, .long 0, .int 0, .int 0, .int 0, .int (-1), .ref (B 6), .ref (B 7), .ref (B 8), .ref (B 9), .ref (B 10), .ref (B 11), .ref (B 12), .ref (B 13), .int 0, .int 0, .ref (B 14), .ref (B 15), .int 0, .int 0, .int 0, .ref (B 16), .ref (B 17), .int 0, .int 0, .int 0, .int 0, .int 0, .ref (B 18), .int 0, .int 0, .int 0])), ((B 6), .inl (cI, 5, .inl (fun _ => 0))), ((B 7), .inl (cI, 30, .inl (fun _ => 0))), ((B 8), .inl (cI, 150, .inl (fun _ => 0))), ((B 9), .inl (cI, 25, .inl (fun _ => 0))), ((B 10), .inl (cI, 600, .inl (fun _ => 0)))]) [0, 1, 3, 4, 5, 6, 7, 8, 9, 10, 11, 12, 13, 14, 15, 16, 17, 18, 19, 20, 49, 50, 60, 66, 67, 68, 69, 70] rfl rfl
  refine lv_aload_n hx hb dL_law_422 rfl (lv_at hl 2 rfl) ?_
  refine cvM (n := 0) (As := []) (rest := []) (wr := [((B 0), .inr (10, [.int 0, .ref (B 1), .ref (B 2), .ref (B 3), .ref (B 4), .ref (B 5), .int 0, .int 0, .int 0, .int 0, .int 0, .long 0, .int 0, .int 0, .int 0, .int (-1), .ref (B 6), .ref (B 7), .ref (B 8), .ref (B 9), .ref (B 10), .ref (B 11), .ref (B 12), .ref (B 13), .int 0, .int 0, .ref (B 14), .ref (B 15), .int 0, .int 0, .int 0, .ref (B 16), .ref (B 17), .int 0, .int 0, .int 0, .int 0, .int 0, .ref (B 18), .int 0, .int 0, .int 0])), ((B 6), .inl (cI, 5, .inl (fun _ => 0))), ((B 7), .inl (cI, 30, .inl (fun _ => 0))), ((B 8), .inl (cI, 150, .inl (fun _ => 0))), ((B 9), .inl (cI, 25, .inl (fun _ => 0))), ((B 10), .inl (cI, 600, .inl (fun _ => 0)))]) ⟨hx, hb, hml, hown, hts⟩ (fun _ h => uw_in h) (kX9_town_0 l D cB cI cJ cZ cT cR (A 0) (A 1) (A 3) (A 4) (A 5) (A 6) (A 7) (A 8) (A 9) (A 10) (A 11) (A 12) (A 13) (A 14) (A 15) (A 16) (A 17) (A 18) (A 19) (A 20) (A 49) (A 50) (A 21) (A 51) (A 60) (A 61) (A 62) (A 63) (A 64) (A 2) (A 65) H.size) q_m432 q_n433 q_e434 q_i1 q_c435 (by decide +kernel) ⟨(Nat.le_of_ble_eq_true rfl), (Nat.le_of_ble_eq_true rfl)⟩ ⟨(Nat.le_of_ble_eq_true rfl), (Nat.le_of_ble_eq_true rfl)⟩ hE hK hP hD hS hA [0, 1, 2, 3, 4, 5, 6, 7, 8, 9, 10, 11, 12, 13, 14, 15, 16, 17, 18, 19, 20, 21] [22, 23, 24, 25, 26, 27] rfl rfl rfl rfl (by decide) 9 0 rfl rfl rfl hl.1 rfl (Nat.le_of_ble_eq_true rfl) dL_law_423 (fun r9 u H locs hpo hP hD hS => ?_)
  obtain ⟨f1, f2, f3, f4, f5, f6, f7, f8⟩ := u
  have hP : va_P D vwCl [((B 0), .inr (10, [.int 0, .ref (B 1), .ref (B 2), .ref (B 3), .ref (B 4), .ref (B 5), .int 0, .int 0, .int 0, .int 0, .int 0, .long 0, .int 0, .int 0, .int 0, .int (-1), .ref (B 6), .ref (B 7), .ref (B 8), .ref (B 9), .ref (B 10), .ref (B 11), .ref (B 12), .ref (B 13), .int 0, .int 0, .ref (B 14), .ref (B 15), .int 0, .int 0, .int 0, .ref (B 16), .ref (B 17), .int 0, .int 0, .int 0, .int 0, .int 0, .ref (B 18), .int 0, .int 0, .int 0])), ((B 6), .inl (cI, 5, .inl (fun _ => 0))), ((B 7), .inl (cI, 30, .inl (fun _ => 0))), ((B 8), .inl (cI, 150, .inl (fun _ => 0))), ((B 9), .inl (cI, 25, .inl (fun _ => 0))), ((B 10), .inl (cI, 600, .inl (fun _ => 0))), ((A 0), .inr (9, [.ref (A 1), .ref (A 3), .ref (A 12), .ref (A 21), .int 0, .ref (A 49), .ref (A 51), .ref (A 60), .ref (A 61), .ref (A 62), .ref (A 63), .ref (A 64)])), ((A 1), .inr (6, [.ref (A 2), .int 0, .int 0, .int (-1), .int 0, .int 0, .int 0, .int 0])), ((A 4), .inl (cI, 6, .inl f1)), ((A 5), .inl (cI, 6, .inl f2)), ((A 6), .inl (cI, 6, .inl f3)), ((A 7), .inl (cI, 6, .inl f4)), ((A 8), .inl (cI, 6, .inl f5)), ((A 9), .inl (cI, 40, .inl f6)), ((A 10), .inl (cI, 40, .inl f7)), ((A 11), .inl (cI, 40, .inl f8)), ((A 13), .inl (cI, 6, .inl (fun _ => 0))), ((A 14), .inl (cI, 6, .inl (fun _ => 0))), ((A 15), .inl (cI, 6, .inl (fun _ => 0))), ((A 16), .inl (cI, 6, .inl (fun _ => 0))), ((A 17), .inl (cI, 6, .inl (fun _ => 0))), ((A 18), .inl (cI, 40, .inl (fun _ => 0))), ((A 19), .inl (cI, 40, .inl (fun _ => 0))), ((A 20), .inl (cI, 40, .inl (fun _ => 0))), ((A 12), .inr (7, [.int 0, .int 0, .int 0, .int 0, .int 0, .int 0, .int 0, .int 0, .ref (A 13), .ref (A 14), .ref (A 15), .ref (A 16), .ref (A 17), .ref (A 18), .ref (A 19), .ref (A 20)])), ((A 49), .inr (5, [.int 0, .int 0, .ref (A 65), .ref (A 50)])), ((A 50), .inl (cI, 7, .inl (fun _ => 0))), ((A 3), .inr (7, [.int 0, .int 0, .int 0, .int 0, .int 0, .int 0, .int 0, .int 0, .ref (A 4), .ref (A 5), .ref (A 6), .ref (A 7), .ref (A 8), .ref (A 9), .ref (A 10), .ref (A 11)]))] H := hP
  have hD : va_D (fun q : Nat => s.heap.size ≤ q) [((B 0), .inr (10, [.int 0, .ref (B 1), .ref (B 2), .ref (B 3), .ref (B 4), .ref (B 5), .int 0, .int 0, .int 0, .int 0, .int 0, .long 0, .int 0, .int 0, .int 0, .int (-1), .ref (B 6), .ref (B 7), .ref (B 8), .ref (B 9), .ref (B 10), .ref (B 11), .ref (B 12), .ref (B 13), .int 0, .int 0, .ref (B 14), .ref (B 15), .int 0, .int 0, .int 0, .ref (B 16), .ref (B 17), .int 0, .int 0, .int 0, .int 0, .int 0, .ref (B 18), .int 0, .int 0, .int 0])), ((B 6), .inl (cI, 5, .inl (fun _ => 0))), ((B 7), .inl (cI, 30, .inl (fun _ => 0))), ((B 8), .inl (cI, 150, .inl (fun _ => 0))), ((B 9), .inl (cI, 25, .inl (fun _ => 0))), ((B 10), .inl (cI, 600, .inl (fun _ => 0))), ((A 0), .inr (9, [.ref (A 1), .ref (A 3), .ref (A 12), .ref (A 21), .int 0, .ref (A 49), .ref (A 51), .ref (A 60), .ref (A 61), .ref (A 62), .ref (A 63), .ref (A 64)])), ((A 1), .inr (6, [.ref (A 2), .int 0, .int 0, .int (-1), .int 0, .int 0, .int 0, .int 0])), ((A 4), .inl (cI, 6, .inl f1)), ((A 5), .inl (cI, 6, .inl f2)), ((A 6), .inl (cI, 6, .inl f3)), ((A 7), .inl (cI, 6, .inl f4)), ((A 8), .inl (cI, 6, .inl f5)), ((A 9), .inl (cI, 40, .inl f6)), ((A 10), .inl (cI, 40, .inl f7)), ((A 11), .inl (cI, 40, .inl f8)), ((A 13), .inl (cI, 6, .inl (fun _ => 0))), ((A 14), .inl (cI, 6, .inl (fun _ => 0))), ((A 15), .inl (cI, 6, .inl (fun _ => 0))), ((A 16), .inl (cI, 6, .inl (fun _ => 0))), ((A 17), .inl (cI, 6, .inl (fun _ => 0))), ((A 18), .inl (cI, 40, .inl (fun _ => 0))), ((A 19), .inl (cI, 40, .inl (fun _ => 0))), ((A 20), .inl (cI, 40, .inl (fun _ => 0))), ((A 12), .inr (7, [.int 0, .int 0, .int 0, .int 0, .int 0, .int 0, .int 0, .int 0, .ref (A 13), .ref (A 14), .ref (A 15), .ref (A 16), .ref (A 17), .ref (A 18), .ref (A 19), .ref (A 20)])), ((A 49), .inr (5, [.int 0, .int 0, .ref (A 65), .ref (A 50)])), ((A 50), .inl (cI, 7, .inl (fun _ => 0))), ((A 3), .inr (7, [.int 0, .int 0, .int 0, .int 0, .int 0, .int 0, .int 0, .int 0, .ref (A 4), .ref (A 5), .ref (A 6), .ref (A 7), .ref (A 8), .ref (A 9), .ref (A 10), .ref (A 11)]))] := hD
  refine W.cs (cells' := 180) (slots' := 4779) rfl rfl ?_
  refine pv_i (v := 0) hpo ?_
  refine lv_aload_n hx hb dL_law_426 rfl (lv_at hl 1 rfl) ?_
  refine cvM (n := 0) (As := []) (rest := [.int 0]) (wr := [((A 0), .inr (9, [.ref (A 1), .ref (A 3), .ref (A 12), .ref (A 21), .int 0, .ref (A 49), .ref (A 51), .ref (A 60), .ref (A 61), .ref (A 62), .ref (A 63), .ref (A 64)])), ((A 1), .inr (6, [.ref (A 2), .int 0, .int 0, .int (-1), .int 0, .int 0, .int 0, .int 0])), ((A 4), .inl (cI, 6, .inl f1)), ((A 5), .inl (cI, 6, .inl f2)), ((A 6), .inl (cI, 6, .inl f3)), ((A 7), .inl (cI, 6, .inl f4)), ((A 8), .inl (cI, 6, .inl f5)), ((A 9), .inl (cI, 40, .inl f6)), ((A 10), .inl (cI, 40, .inl f7)), ((A 11), .inl (cI, 40, .inl f8)), ((A 13), .inl (cI, 6, .inl (fun _ => 0))), ((A 14), .inl (cI, 6, .inl (fun _ => 0))), ((A 15), .inl (cI, 6, .inl (fun _ => 0))), ((A 16), .inl (cI, 6, .inl (fun _ => 0))), ((A 17), .inl (cI, 6, .inl (fun _ => 0))), ((A 18), .inl (cI, 40, .inl (fun _ => 0))), ((A 19), .inl (cI, 40, .inl (fun _ => 0))), ((A 20), .inl (cI, 40, .inl (fun _ => 0))), ((A 12), .inr (7, [.int 0, .int 0, .int 0, .int 0, .int 0, .int 0, .int 0, .int 0, .ref (A 13), .ref (A 14), .ref (A 15), .ref (A 16), .ref (A 17), .ref (A 18), .ref (A 19), .ref (A 20)])), ((A 49), .inr (5, [.int 0, .int 0, .ref (A 65), .ref (A 50)])), ((A 50), .inl (cI, 7, .inl (fun _ => 0))), ((A 3), .inr (7, [.int 0, .int 0, .int 0, .int 0, .int 0, .int 0, .int 0, .int 0, .ref (A 4), .ref (A 5), .ref (A 6), .ref (A 7), .ref (A 8), .ref (A 9), .ref (A 10), .ref (A 11)]))]) ⟨hx, hb, hml, hown, hts⟩ (fun _ h => uw_in h) (kX10_town_0 l D cB cI cJ cZ cT cR (B 0) (B 6) (B 7) (B 8) (B 9) (B 10) (B 1) (B 2) (B 3) (B 4) (B 5) (B 11) (B 12) (B 13) (B 14) (B 15) (B 16) (B 17) (B 18) H.size) q_m1354 q_n1355 q_e1356 q_i11 q_c1357 (by decide +kernel) ⟨(Nat.le_of_ble_eq_true rfl), (Nat.le_of_ble_eq_true rfl)⟩ ⟨(Nat.le_of_ble_eq_true rfl), (Nat.le_of_ble_eq_true rfl)⟩ hE hK hP hD hS hA [0, 1, 2, 3, 4, 5] [6, 7, 8, 9, 10, 11, 12, 13, 14, 15, 16, 17, 18, 19, 20, 21, 22, 23, 24, 25, 26, 27] rfl rfl rfl rfl (by decide) 10 0 rfl rfl rfl hl.1 rfl (Nat.le_of_ble_eq_true rfl) dL_law_427 (fun r9 u H locs hpo hP hD hS => ?_)
  have hP : va_P D vwCl [((A 0), .inr (9, [.ref (A 1), .ref (A 3), .ref (A 12), .ref (A 21), .int 0, .ref (A 49), .ref (A 51), .ref (A 60), .ref (A 61), .ref (A 62), .ref (A 63), .ref (A 64)])), ((A 1), .inr (6, [.ref (A 2), .int 0, .int 0, .int (-1), .int 0, .int 0, .int 0, .int 0])), ((A 4), .inl (cI, 6, .inl f1)), ((A 5), .inl (cI, 6, .inl f2)), ((A 6), .inl (cI, 6, .inl f3)), ((A 7), .inl (cI, 6, .inl f4)), ((A 8), .inl (cI, 6, .inl f5)), ((A 9), .inl (cI, 40, .inl f6)), ((A 10), .inl (cI, 40, .inl f7)), ((A 11), .inl (cI, 40, .inl f8)), ((A 13), .inl (cI, 6, .inl (fun _ => 0))), ((A 14), .inl (cI, 6, .inl (fun _ => 0))), ((A 15), .inl (cI, 6, .inl (fun _ => 0))), ((A 16), .inl (cI, 6, .inl (fun _ => 0))), ((A 17), .inl (cI, 6, .inl (fun _ => 0))), ((A 18), .inl (cI, 40, .inl (fun _ => 0))), ((A 19), .inl (cI, 40, .inl (fun _ => 0))), ((A 20), .inl (cI, 40, .inl (fun _ => 0))), ((A 12), .inr (7, [.int 0, .int 0, .int 0, .int 0, .int 0, .int 0, .int 0, .int 0, .ref (A 13), .ref (A 14), .ref (A 15), .ref (A 16), .ref (A 17), .ref (A 18), .ref (A 19), .ref (A 20)])), ((A 49), .inr (5, [.int 0, .int 0, .ref (A 65), .ref (A 50)])), ((A 50), .inl (cI, 7, .inl (fun _ => 0))), ((A 3), .inr (7, [.int 0, .int 0, .int 0, .int 0, .int 0, .int 0, .int 0, .int 0, .ref (A 4), .ref (A 5), .ref (A 6), .ref (A 7), .ref (A 8), .ref (A 9), .ref (A 10), .ref (A 11)])), ((B 0), .inr (10, [.int 0, .ref (B 1), .ref (B 2), .ref (B 3), .ref (B 4), .ref (B 5), .int 0, .int 0, .int 0, .int 0, .int 0, .long 0, .int 0, .int (-1), .int 0, .int (-1), .ref (B 6), .ref (B 7), .ref (B 8), .ref (B 9), .ref (B 10), .ref (B 11), .ref (B 12), .ref (B 13), .int 0, .int 0, .ref (B 14), .ref (B 15), .int 0, .int 0, .int 0, .ref (B 16), .ref (B 17), .int 0, .int 0, .int 0, .int 0, .int 0, .ref (B 18), .int 0, .int 0, .int 0])), ((B 6), .inl (cI, 5, .inl (fun _ => 0))), ((B 7), .inl (cI, 30, .inl (fun _ => 0))), ((B 8), .inl (cI, 150, .inl (fun _ => 0))), ((B 9), .inl (cI, 25, .inl (fun _ => 0))), ((B 10), .inl (cI, 600, .inl (fun _ => 0)))] H := hP
  have hD : va_D (fun q : Nat => s.heap.size ≤ q) [((A 0), .inr (9, [.ref (A 1), .ref (A 3), .ref (A 12), .ref (A 21), .int 0, .ref (A 49), .ref (A 51), .ref (A 60), .ref (A 61), .ref (A 62), .ref (A 63), .ref (A 64)])), ((A 1), .inr (6, [.ref (A 2), .int 0, .int 0, .int (-1), .int 0, .int 0, .int 0, .int 0])), ((A 4), .inl (cI, 6, .inl f1)), ((A 5), .inl (cI, 6, .inl f2)), ((A 6), .inl (cI, 6, .inl f3)), ((A 7), .inl (cI, 6, .inl f4)), ((A 8), .inl (cI, 6, .inl f5)), ((A 9), .inl (cI, 40, .inl f6)), ((A 10), .inl (cI, 40, .inl f7)), ((A 11), .inl (cI, 40, .inl f8)), ((A 13), .inl (cI, 6, .inl (fun _ => 0))), ((A 14), .inl (cI, 6, .inl (fun _ => 0))), ((A 15), .inl (cI, 6, .inl (fun _ => 0))), ((A 16), .inl (cI, 6, .inl (fun _ => 0))), ((A 17), .inl (cI, 6, .inl (fun _ => 0))), ((A 18), .inl (cI, 40, .inl (fun _ => 0))), ((A 19), .inl (cI, 40, .inl (fun _ => 0))), ((A 20), .inl (cI, 40, .inl (fun _ => 0))), ((A 12), .inr (7, [.int 0, .int 0, .int 0, .int 0, .int 0, .int 0, .int 0, .int 0, .ref (A 13), .ref (A 14), .ref (A 15), .ref (A 16), .ref (A 17), .ref (A 18), .ref (A 19), .ref (A 20)])), ((A 49), .inr (5, [.int 0, .int 0, .ref (A 65), .ref (A 50)])), ((A 50), .inl (cI, 7, .inl (fun _ => 0))), ((A 3), .inr (7, [.int 0, .int 0, .int 0, .int 0, .int 0, .int 0, .int 0, .int 0, .ref (A 4), .ref (A 5), .ref (A 6), .ref (A 7), .ref (A 8), .ref (A 9), .ref (A 10), .ref (A 11)])), ((B 0), .inr (10, [.int 0, .ref (B 1), .ref (B 2), .ref (B 3), .ref (B 4), .ref (B 5), .int 0, .int 0, .int 0, .int 0, .int 0, .long 0, .int 0, .int (-1), .int 0, .int (-1), .ref (B 6), .ref (B 7), .ref (B 8), .ref (B 9), .ref (B 10), .ref (B 11), .ref (B 12), .ref (B 13), .int 0, .int 0, .ref (B 14), .ref (B 15), .int 0, .int 0, .int 0, .ref (B 16), .ref (B 17), .int 0, .int 0, .int 0, .int 0, .int 0, .ref (B 18), .int 0, .int 0, .int 0])), ((B 6), .inl (cI, 5, .inl (fun _ => 0))), ((B 7), .inl (cI, 30, .inl (fun _ => 0))), ((B 8), .inl (cI, 150, .inl (fun _ => 0))), ((B 9), .inl (cI, 25, .inl (fun _ => 0))), ((B 10), .inl (cI, 600, .inl (fun _ => 0)))] := hD
  refine W.cs (cells' := 180) (slots' := 4779) rfl rfl ?_
  refine pv_i (v := 0) hpo ?_
  refine lv_icmp_eq (tgt := 2362) hx hb dL_law_430 (by decide) (fun _ => ?_) (fun c9 => absurd (by decide) c9)
  exact law_end C0 hS (Nat.le_of_ble_eq_true rfl) (Nat.le_of_ble_eq_true rfl) ls hl
