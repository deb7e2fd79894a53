set_option maxHeartbeats 4000000 in
set_option maxRecDepth 100000 in
theorem kX7_copyFrom_1 (l : Launch) (D : va_G) (cB cI cJ cZ cT cR : ClassId) (a0 a1 a2 a3 a4 a5 a6 a7 a8 a9 a10 a11 a12 a13 a14 a15 a16 a17 : Nat) (sz : Nat) : Met l yX7_copyFrom (uc yX7_copyFrom cX7_copyFrom 2 none) (rmL 1 0 0) (va_Pc [.ref a0, .ref a1] (MPre D [(cB, .byte), (cI, .int), (cJ, .long), (cZ, .boolean), (cT, .object RX7), (cR, .object RX3)] [(a1, .inr (7, [.int 0, .int 0, .int 0, .int 0, .int 0, .int 0, .int 0, .int 0, .ref a2, .ref a3, .ref a4, .ref a5, .ref a6, .ref a7, .ref a8, .ref a9])), (a2, .inl (cI, 6, .inl (fun _ => 0))), (a3, .inl (cI, 6, .inl (fun _ => 0))), (a4, .inl (cI, 6, .inl (fun _ => 0))), (a5, .inl (cI, 6, .inl (fun _ => 0))), (a6, .inl (cI, 6, .inl (fun _ => 0))), (a7, .inl (cI, 40, .inl (fun _ => 0))), (a8, .inl (cI, 40, .inl (fun _ => 0))), (a9, .inl (cI, 40, .inl (fun _ => 0))), (a0, .inr (7, [.int 0, .int 0, .int 0, .int 0, .int 0, .int 0, .int 0, .int 0, .ref a10, .ref a11, .ref a12, .ref a13, .ref a14, .ref a15, .ref a16, .ref a17])), (a10, .inl (cI, 6, .inl (fun _ => 0))), (a11, .inl (cI, 6, .inl (fun _ => 0))), (a12, .inl (cI, 6, .inl (fun _ => 0))), (a13, .inl (cI, 6, .inl (fun _ => 0))), (a14, .inl (cI, 6, .inl (fun _ => 0))), (a15, .inl (cI, 40, .inl (fun _ => 0))), (a16, .inl (cI, 40, .inl (fun _ => 0))), (a17, .inl (cI, 40, .inl (fun _ => 0)))] sz)) (va_Qv (fun (_ : (Nat → Int32) × (Nat → Int32) × (Nat → Int32) × (Nat → Int32) × (Nat → Int32) × (Nat → Int32) × (Nat → Int32) × (Nat → Int32)) => True) (MB D [(cB, .byte), (cI, .int), (cJ, .long), (cZ, .boolean), (cT, .object RX7), (cR, .object RX3)] [(a1, .inr (7, [.int 0, .int 0, .int 0, .int 0, .int 0, .int 0, .int 0, .int 0, .ref a2, .ref a3, .ref a4, .ref a5, .ref a6, .ref a7, .ref a8, .ref a9])), (a2, .inl (cI, 6, .inl (fun _ => 0))), (a3, .inl (cI, 6, .inl (fun _ => 0))), (a4, .inl (cI, 6, .inl (fun _ => 0))), (a5, .inl (cI, 6, .inl (fun _ => 0))), (a6, .inl (cI, 6, .inl (fun _ => 0))), (a7, .inl (cI, 40, .inl (fun _ => 0))), (a8, .inl (cI, 40, .inl (fun _ => 0))), (a9, .inl (cI, 40, .inl (fun _ => 0))), (a0, .inr (7, [.int 0, .int 0, .int 0, .int 0, .int 0, .int 0, .int 0, .int 0, .ref a10, .ref a11, .ref a12, .ref a13, .ref a14, .ref a15, .ref a16, .ref a17])), (a10, .inl (cI, 6, .inl (fun _ => 0))), (a11, .inl (cI, 6, .inl (fun _ => 0))), (a12, .inl (cI, 6, .inl (fun _ => 0))), (a13, .inl (cI, 6, .inl (fun _ => 0))), (a14, .inl (cI, 6, .inl (fun _ => 0))), (a15, .inl (cI, 40, .inl (fun _ => 0))), (a16, .inl (cI, 40, .inl (fun _ => 0))), (a17, .inl (cI, 40, .inl (fun _ => 0)))] sz (fun (u : (Nat → Int32) × (Nat → Int32) × (Nat → Int32) × (Nat → Int32) × (Nat → Int32) × (Nat → Int32) × (Nat → Int32) × (Nat → Int32)) => [(a1, .inr (7, [.int 0, .int 0, .int 0, .int 0, .int 0, .int 0, .int 0, .int 0, .ref a2, .ref a3, .ref a4, .ref a5, .ref a6, .ref a7, .ref a8, .ref a9])), (a2, .inl (cI, 6, .inl (fun _ => 0))), (a3, .inl (cI, 6, .inl (fun _ => 0))), (a4, .inl (cI, 6, .inl (fun _ => 0))), (a5, .inl (cI, 6, .inl (fun _ => 0))), (a6, .inl (cI, 6, .inl (fun _ => 0))), (a7, .inl (cI, 40, .inl (fun _ => 0))), (a8, .inl (cI, 40, .inl (fun _ => 0))), (a9, .inl (cI, 40, .inl (fun _ => 0))), (a0, .inr (7, [.int 0, .int 0, .int 0, .int 0, .int 0, .int 0, .int 0, .int 0, .ref a10, .ref a11, .ref a12, .ref a13, .ref a14, .ref a15, .ref a16, .ref a17])), (a10, .inl (cI, 6, .inl (u.1))), (a11, .inl (cI, 6, .inl (u.2.1))), (a12, .inl (cI, 6, .inl (u.2.2.1))), (a13, .inl (cI, 6, .inl (u.2.2.2.1))), (a14, .inl (cI, 6, .inl (u.2.2.2.2.1))), (a15, .inl (cI, 40, .inl (u.2.2.2.2.2.1))), (a16, .inl (cI, 40, .inl (u.2.2.2.2.2.2.1))), (a17, .inl (cI, 40, .inl (u.2.2.2.2.2.2.2)))])) (va_A [(a1, .inr (7, [.int 0, .int 0, .int 0, .int 0, .int 0, .int 0, .int 0, .int 0, .ref a2, .ref a3, .ref a4, .ref a5, .ref a6, .ref a7, .ref a8, .ref a9])), (a2, .inl (cI, 6, .inl (fun _ => 0))), (a3, .inl (cI, 6, .inl (fun _ => 0))), (a4, .inl (cI, 6, .inl (fun _ => 0))), (a5, .inl (cI, 6, .inl (fun _ => 0))), (a6, .inl (cI, 6, .inl (fun _ => 0))), (a7, .inl (cI, 40, .inl (fun _ => 0))), (a8, .inl (cI, 40, .inl (fun _ => 0))), (a9, .inl (cI, 40, .inl (fun _ => 0))), (a0, .inr (7, [.int 0, .int 0, .int 0, .int 0, .int 0, .int 0, .int 0, .int 0, .ref a10, .ref a11, .ref a12, .ref a13, .ref a14, .ref a15, .ref a16, .ref a17])), (a10, .inl (cI, 6, .inl (fun _ => 0))), (a11, .inl (cI, 6, .inl (fun _ => 0))), (a12, .inl (cI, 6, .inl (fun _ => 0))), (a13, .inl (cI, 6, .inl (fun _ => 0))), (a14, .inl (cI, 6, .inl (fun _ => 0))), (a15, .inl (cI, 40, .inl (fun _ => 0))), (a16, .inl (cI, 40, .inl (fun _ => 0))), (a17, .inl (cI, 40, .inl (fun _ => 0)))] sz)) 0 0 (va_A [(a1, .inr (7, [.int 0, .int 0, .int 0, .int 0, .int 0, .int 0, .int 0, .int 0, .ref a2, .ref a3, .ref a4, .ref a5, .ref a6, .ref a7, .ref a8, .ref a9])), (a2, .inl (cI, 6, .inl (fun _ => 0))), (a3, .inl (cI, 6, .inl (fun _ => 0))), (a4, .inl (cI, 6, .inl (fun _ => 0))), (a5, .inl (cI, 6, .inl (fun _ => 0))), (a6, .inl (cI, 6, .inl (fun _ => 0))), (a7, .inl (cI, 40, .inl (fun _ => 0))), (a8, .inl (cI, 40, .inl (fun _ => 0))), (a9, .inl (cI, 40, .inl (fun _ => 0))), (a0, .inr (7, [.int 0, .int 0, .int 0, .int 0, .int 0, .int 0, .int 0, .int 0, .ref a10, .ref a11, .ref a12, .ref a13, .ref a14, .ref a15, .ref a16, .ref a17])), (a10, .inl (cI, 6, .inl (fun _ => 0))), (a11, .inl (cI, 6, .inl (fun _ => 0))), (a12, .inl (cI, 6, .inl (fun _ => 0))), (a13, .inl (cI, 6, .inl (fun _ => 0))), (a14, .inl (cI, 6, .inl (fun _ => 0))), (a15, .inl (cI, 40, .inl (fun _ => 0))), (a16, .inl (cI, 40, .inl (fun _ => 0))), (a17, .inl (cI, 40, .inl (fun _ => 0)))] sz) := by
  refine pm (by decide) (Nat.le_of_ble_eq_true rfl) ?_
  intro p e s m below meth c ls hx hb hr hml hown hlk hnm hts hv hl
  have hown : s.vm.findClass RX7 = some m.cls := hown
  have hl : lv_has ls 2 [(0, .ref a0), (1, .ref a1)] := hl
  obtain ⟨hsz, hP, hK, hD0, hE⟩ := hv
  subst hsz
  have hD := hD0.self (sz := s.heap.size)
  obtain ⟨AA, hAe⟩ : ∃ AA, AA = va_A [(a1, .inr (7, [.int 0, .int 0, .int 0, .int 0, .int 0, .int 0, .int 0, .int 0, .ref a2, .ref a3, .ref a4, .ref a5, .ref a6, .ref a7, .ref a8, .ref a9])), (a2, .inl (cI, 6, .inl (fun _ => 0))), (a3, .inl (cI, 6, .inl (fun _ => 0))), (a4, .inl (cI, 6, .inl (fun _ => 0))), (a5, .inl (cI, 6, .inl (fun _ => 0))), (a6, .inl (cI, 6, .inl (fun _ => 0))), (a7, .inl (cI, 40, .inl (fun _ => 0))), (a8, .inl (cI, 40, .inl (fun _ => 0))), (a9, .inl (cI, 40, .inl (fun _ => 0))), (a0, .inr (7, [.int 0, .int 0, .int 0, .int 0, .int 0, .int 0, .int 0, .int 0, .ref a10, .ref a11, .ref a12, .ref a13, .ref a14, .ref a15, .ref a16, .ref a17])), (a10, .inl (cI, 6, .inl (fun _ => 0))), (a11, .inl (cI, 6, .inl (fun _ => 0))), (a12, .inl (cI, 6, .inl (fun _ => 0))), (a13, .inl (cI, 6, .inl (fun _ => 0))), (a14, .inl (cI, 6, .inl (fun _ => 0))), (a15, .inl (cI, 40, .inl (fun _ => 0))), (a16, .inl (cI, 40, .inl (fun _ => 0))), (a17, .inl (cI, 40, .inl (fun _ => 0)))] s.heap.size := ⟨_, rfl⟩
  rw [← hAe] at hD
  have hA : ∀ q : Nat, s.heap.size ≤ q → AA q := fun q h => by rw [hAe]; exact Or.inr h
  have hS : va_S AA s.heap s.heap [] := va_S.rf
  obtain ⟨-, hAOT, hAOR, hAOI⟩ := id hE
  refine lv_aload_n hx hb dX7_copyFrom_0 rfl (lv_at hl 0 rfl) ?_
  refine lv_aload_n hx hb dX7_copyFrom_1 rfl (lv_at hl 1 rfl) ?_
  refine va_get (D := D) (ci := 7) (v := .int 0) (C := RX7) (T := TX7) (N := 16) hx hb hts (fun w h => uc_in w (inX7 w h)) hown hK hP 0 rfl rfl 0 (by decide) (hts _ (uc_in _ q_f68)) (fun _ h9 => h9) rfl dX7_copyFrom_2 ?_
  refine va_put (D := D) (ci := 7) (v := .int 0) (ty := .int) (C := RX7) (T := TX7) (N := 16) hx hb hts (fun w h => uc_in w (inX7 w h)) tyX7 tyX7_ok nmX7 hown hK hP hD hS 9 rfl rfl 0 (by decide) (hts _ (uc_in _ q_f68)) (fun _ h9 => h9) rfl (by decide +kernel) rfl rfl (Nat.le_of_ble_eq_true rfl) dX7_copyFrom_5 (fun H locs hP hD hS => ?_)
  have hP : va_P D vwCl [(a1, .inr (7, [.int 0, .int 0, .int 0, .int 0, .int 0, .int 0, .int 0, .int 0, .ref a2, .ref a3, .ref a4, .ref a5, .ref a6, .ref a7, .ref a8, .ref a9])), (a2, .inl (cI, 6, .inl (fun _ => 0))), (a3, .inl (cI, 6, .inl (fun _ => 0))), (a4, .inl (cI, 6, .inl (fun _ => 0))), (a5, .inl (cI, 6, .inl (fun _ => 0))), (a6, .inl (cI, 6, .inl (fun _ => 0))), (a7, .inl (cI, 40, .inl (fun _ => 0))), (a8, .inl (cI, 40, .inl (fun _ => 0))), (a9, .inl (cI, 40, .inl (fun _ => 0))), (a0, .inr (7, [.int 0, .int 0, .int 0, .int 0, .int 0, .int 0, .int 0, .int 0, .ref a10, .ref a11, .ref a12, .ref a13, .ref a14, .ref a15, .ref a16, .ref a17])), (a10, .inl (cI, 6, .inl (fun _ => 0))), (a11, .inl (cI, 6, .inl (fun _ => 0))), (a12, .inl (cI, 6, .inl (fun _ => 0))), (a13, .inl (cI, 6, .inl (fun _ => 0))), (a14, .inl (cI, 6, .inl (fun _ => 0))), (a15, .inl (cI, 40, .inl (fun _ => 0))), (a16, .inl (cI, 40, .inl (fun _ => 0))), (a17, .inl (cI, 40, .inl (fun _ => 0)))] H := hP
  have hD : va_D AA [(a1, .inr (7, [.int 0, .int 0, .int 0, .int 0, .int 0, .int 0, .int 0, .int 0, .ref a2, .ref a3, .ref a4, .ref a5, .ref a6, .ref a7, .ref a8, .ref a9])), (a2, .inl (cI, 6, .inl (fun _ => 0))), (a3, .inl (cI, 6, .inl (fun _ => 0))), (a4, .inl (cI, 6, .inl (fun _ => 0))), (a5, .inl (cI, 6, .inl (fun _ => 0))), (a6, .inl (cI, 6, .inl (fun _ => 0))), (a7, .inl (cI, 40, .inl (fun _ => 0))), (a8, .inl (cI, 40, .inl (fun _ => 0))), (a9, .inl (cI, 40, .inl (fun _ => 0))), (a0, .inr (7, [.int 0, .int 0, .int 0, .int 0, .int 0, .int 0, .int 0, .int 0, .ref a10, .ref a11, .ref a12, .ref a13, .ref a14, .ref a15, .ref a16, .ref a17])), (a10, .inl (cI, 6, .inl (fun _ => 0))), (a11, .inl (cI, 6, .inl (fun _ => 0))), (a12, .inl (cI, 6, .inl (fun _ => 0))), (a13, .inl (cI, 6, .inl (fun _ => 0))), (a14, .inl (cI, 6, .inl (fun _ => 0))), (a15, .inl (cI, 40, .inl (fun _ => 0))), (a16, .inl (cI, 40, .inl (fun _ => 0))), (a17, .inl (cI, 40, .inl (fun _ => 0)))] := hD
  refine lv_aload_n hx hb dX7_copyFrom_8 rfl (lv_at hl 0 rfl) ?_
  refine lv_aload_n hx hb dX7_copyFrom_9 rfl (lv_at hl 1 rfl) ?_
  refine va_get (D := D) (ci := 7) (v := .int 0) (C := RX7) (T := TX7) (N := 16) hx hb hts (fun w h => uc_in w (inX7 w h)) hown hK hP 0 rfl rfl 1 (by decide) (hts _ (uc_in _ q_f72)) (fun _ h9 => h9) rfl dX7_copyFrom_10 ?_
  refine va_put (D := D) (ci := 7) (v := .int 0) (ty := .int) (C := RX7) (T := TX7) (N := 16) hx hb hts (fun w h => uc_in w (inX7 w h)) tyX7 tyX7_ok nmX7 hown hK hP hD hS 9 rfl rfl 1 (by decide) (hts _ (uc_in _ q_f72)) (fun _ h9 => h9) rfl (by decide +kernel) rfl rfl (Nat.le_of_ble_eq_true rfl) dX7_copyFrom_13 (fun H locs hP hD hS => ?_)
  have hP : va_P D vwCl [(a1, .inr (7, [.int 0, .int 0, .int 0, .int 0, .int 0, .int 0, .int 0, .int 0, .ref a2, .ref a3, .ref a4, .ref a5, .ref a6, .ref a7, .ref a8, .ref a9])), (a2, .inl (cI, 6, .inl (fun _ => 0))), (a3, .inl (cI, 6, .inl (fun _ => 0))), (a4, .inl (cI, 6, .inl (fun _ => 0))), (a5, .inl (cI, 6, .inl (fun _ => 0))), (a6, .inl (cI, 6, .inl (fun _ => 0))), (a7, .inl (cI, 40, .inl (fun _ => 0))), (a8, .inl (cI, 40, .inl (fun _ => 0))), (a9, .inl (cI, 40, .inl (fun _ => 0))), (a0, .inr (7, [.int 0, .int 0, .int 0, .int 0, .int 0, .int 0, .int 0, .int 0, .ref a10, .ref a11, .ref a12, .ref a13, .ref a14, .ref a15, .ref a16, .ref a17])), (a10, .inl (cI, 6, .inl (fun _ => 0))), (a11, .inl (cI, 6, .inl (fun _ => 0))), (a12, .inl (cI, 6, .inl (fun _ => 0))), (a13, .inl (cI, 6, .inl (fun _ => 0))), (a14, .inl (cI, 6, .inl (fun _ => 0))), (a15, .inl (cI, 40, .inl (fun _ => 0))), (a16, .inl (cI, 40, .inl (fun _ => 0))), (a17, .inl (cI, 40, .inl (fun _ => 0)))] H := hP
  have hD : va_D AA [(a1, .inr (7, [.int 0, .int 0, .int 0, .int 0, .int 0, .int 0, .int 0, .int 0, .ref a2, .ref a3, .ref a4, .ref a5, .ref a6, .ref a7, .ref a8, .ref a9])), (a2, .inl (cI, 6, .inl (fun _ => 0))), (a3, .inl (cI, 6, .inl (fun _ => 0))), (a4, .inl (cI, 6, .inl (fun _ => 0))), (a5, .inl (cI, 6, .inl (fun _ => 0))), (a6, .inl (cI, 6, .inl (fun _ => 0))), (a7, .inl (cI, 40, .inl (fun _ => 0))), (a8, .inl (cI, 40, .inl (fun _ => 0))), (a9, .inl (cI, 40, .inl (fun _ => 0))), (a0, .inr (7, [.int 0, .int 0, .int 0, .int 0, .int 0, .int 0, .int 0, .int 0, .ref a10, .ref a11, .ref a12, .ref a13, .ref a14, .ref a15, .ref a16, .ref a17])), (a10, .inl (cI, 6, .inl (fun _ => 0))), (a11, .inl (cI, 6, .inl (fun _ => 0))), (a12, .inl (cI, 6, .inl (fun _ => 0))), (a13, .inl (cI, 6, .inl (fun _ => 0))), (a14, .inl (cI, 6, .inl (fun _ => 0))), (a15, .inl (cI, 40, .inl (fun _ => 0))), (a16, .inl (cI, 40, .inl (fun _ => 0))), (a17, .inl (cI, 40, .inl (fun _ => 0)))] := hD
  refine lv_aload_n hx hb dX7_copyFrom_16 rfl (lv_at hl 0 rfl) ?_
  refine lv_aload_n hx hb dX7_copyFrom_17 rfl (lv_at hl 1 rfl) ?_
  refine va_get (D := D) (ci := 7) (v := .int 0) (C := RX7) (T := TX7) (N := 16) hx hb hts (fun w h => uc_in w (inX7 w h)) hown hK hP 0 rfl rfl 2 (by decide) (hts _ (uc_in _ q_f75)) (fun _ h9 => h9) rfl dX7_copyFrom_18 ?_
  refine va_put (D := D) (ci := 7) (v := .int 0) (ty := .int) (C := RX7) (T := TX7) (N := 16) hx hb hts (fun w h => uc_in w (inX7 w h)) tyX7 tyX7_ok nmX7 hown hK hP hD hS 9 rfl rfl 2 (by decide) (hts _ (uc_in _ q_f75)) (fun _ h9 => h9) rfl (by decide +kernel) rfl rfl (Nat.le_of_ble_eq_true rfl) dX7_copyFrom_21 (fun H locs hP hD hS => ?_)
  have hP : va_P D vwCl [(a1, .inr (7, [.int 0, .int 0, .int 0, .int 0, .int 0, .int 0, .int 0, .int 0, .ref a2, .ref a3, .ref a4, .ref a5, .ref a6, .ref a7, .ref a8, .ref a9])), (a2, .inl (cI, 6, .inl (fun _ => 0))), (a3, .inl (cI, 6, .inl (fun _ => 0))), (a4, .inl (cI, 6, .inl (fun _ => 0))), (a5, .inl (cI, 6, .inl (fun _ => 0))), (a6, .inl (cI, 6, .inl (fun _ => 0))), (a7, .inl (cI, 40, .inl (fun _ => 0))), (a8, .inl (cI, 40, .inl (fun _ => 0))), (a9, .inl (cI, 40, .inl (fun _ => 0))), (a0, .inr (7, [.int 0, .int 0, .int 0, .int 0, .int 0, .int 0, .int 0, .int 0, .ref a10, .ref a11, .ref a12, .ref a13, .ref a14, .ref a15, .ref a16, .ref a17])), (a10, .inl (cI, 6, .inl (fun _ => 0))), (a11, .inl (cI, 6, .inl (fun _ => 0))), (a12, .inl (cI, 6, .inl (fun _ => 0))), (a13, .inl (cI, 6, .inl (fun _ => 0))), (a14, .inl (cI, 6, .inl (fun _ => 0))), (a15, .inl (cI, 40, .inl (fun _ => 0))), (a16, .inl (cI, 40, .inl (fun _ => 0))), (a17, .inl (cI, 40, .inl (fun _ => 0)))] H := hP
  have hD : va_D AA [(a1, .inr (7, [.int 0, .int 0, .int 0, .int 0, .int 0, .int 0, .int 0, .int 0, .ref a2, .ref a3, .ref a4, .ref a5, .ref a6, .ref a7, .ref a8, .ref a9])), (a2, .inl (cI, 6, .inl (fun _ => 0))), (a3, .inl (cI, 6, .inl (fun _ => 0))), (a4, .inl (cI, 6, .inl (fun _ => 0))), (a5, .inl (cI, 6, .inl (fun _ => 0))), (a6, .inl (cI, 6, .inl (fun _ => 0))), (a7, .inl (cI, 40, .inl (fun _ => 0))), (a8, .inl (cI, 40, .inl (fun _ => 0))), (a9, .inl (cI, 40, .inl (fun _ => 0))), (a0, .inr (7, [.int 0, .int 0, .int 0, .int 0, .int 0, .int 0, .int 0, .int 0, .ref a10, .ref a11, .ref a12, .ref a13, .ref a14, .ref a15, .ref a16, .ref a17])), (a10, .inl (cI, 6, .inl (fun _ => 0))), (a11, .inl (cI, 6, .inl (fun _ => 0))), (a12, .inl (cI, 6, .inl (fun _ => 0))), (a13, .inl (cI, 6, .inl (fun _ => 0))), (a14, .inl (cI, 6, .inl (fun _ => 0))), (a15, .inl (cI, 40, .inl (fun _ => 0))), (a16, .inl (cI, 40, .inl (fun _ => 0))), (a17, .inl (cI, 40, .inl (fun _ => 0)))] := hD
  refine lv_aload_n hx hb dX7_copyFrom_24 rfl (lv_at hl 0 rfl) ?_
  refine lv_aload_n hx hb dX7_copyFrom_25 rfl (lv_at hl 1 rfl) ?_
  refine va_get (D := D) (ci := 7) (v := .int 0) (C := RX7) (T := TX7) (N := 16) hx hb hts (fun w h => uc_in w (inX7 w h)) hown hK hP 0 rfl rfl 3 (by decide) (hts _ (uc_in _ q_f78)) (fun _ h9 => h9) rfl dX7_copyFrom_26 ?_
  refine va_put (D := D) (ci := 7) (v := .int 0) (ty := .int) (C := RX7) (T := TX7) (N := 16) hx hb hts (fun w h => uc_in w (inX7 w h)) tyX7 tyX7_ok nmX7 hown hK hP hD hS 9 rfl rfl 3 (by decide) (hts _ (uc_in _ q_f78)) (fun _ h9 => h9) rfl (by decide +kernel) rfl rfl (Nat.le_of_ble_eq_true rfl) dX7_copyFrom_29 (fun H locs hP hD hS => ?_)
  have hP : va_P D vwCl [(a1, .inr (7, [.int 0, .int 0, .int 0, .int 0, .int 0, .int 0, .int 0, .int 0, .ref a2, .ref a3, .ref a4, .ref a5, .ref a6, .ref a7, .ref a8, .ref a9])), (a2, .inl (cI, 6, .inl (fun _ => 0))), (a3, .inl (cI, 6, .inl (fun _ => 0))), (a4, .inl (cI, 6, .inl (fun _ => 0))), (a5, .inl (cI, 6, .inl (fun _ => 0))), (a6, .inl (cI, 6, .inl (fun _ => 0))), (a7, .inl (cI, 40, .inl (fun _ => 0))), (a8, .inl (cI, 40, .inl (fun _ => 0))), (a9, .inl (cI, 40, .inl (fun _ => 0))), (a0, .inr (7, [.int 0, .int 0, .int 0, .int 0, .int 0, .int 0, .int 0, .int 0, .ref a10, .ref a11, .ref a12, .ref a13, .ref a14, .ref a15, .ref a16, .ref a17])), (a10, .inl (cI, 6, .inl (fun _ => 0))), (a11, .inl (cI, 6, .inl (fun _ => 0))), (a12, .inl (cI, 6, .inl (fun _ => 0))), (a13, .inl (cI, 6, .inl (fun _ => 0))), (a14, .inl (cI, 6, .inl (fun _ => 0))), (a15, .inl (cI, 40, .inl (fun _ => 0))), (a16, .inl (cI, 40, .inl (fun _ => 0))), (a17, .inl (cI, 40, .inl (fun _ => 0)))] H := hP
  have hD : va_D AA [(a1, .inr (7, [.int 0, .int 0, .int 0, .int 0, .int 0, .int 0, .int 0, .int 0, .ref a2, .ref a3, .ref a4, .ref a5, .ref a6, .ref a7, .ref a8, .ref a9])), (a2, .inl (cI, 6, .inl (fun _ => 0))), (a3, .inl (cI, 6, .inl (fun _ => 0))), (a4, .inl (cI, 6, .inl (fun _ => 0))), (a5, .inl (cI, 6, .inl (fun _ => 0))), (a6, .inl (cI, 6, .inl (fun _ => 0))), (a7, .inl (cI, 40, .inl (fun _ => 0))), (a8, .inl (cI, 40, .inl (fun _ => 0))), (a9, .inl (cI, 40, .inl (fun _ => 0))), (a0, .inr (7, [.int 0, .int 0, .int 0, .int 0, .int 0, .int 0, .int 0, .int 0, .ref a10, .ref a11, .ref a12, .ref a13, .ref a14, .ref a15, .ref a16, .ref a17])), (a10, .inl (cI, 6, .inl (fun _ => 0))), (a11, .inl (cI, 6, .inl (fun _ => 0))), (a12, .inl (cI, 6, .inl (fun _ => 0))), (a13, .inl (cI, 6, .inl (fun _ => 0))), (a14, .inl (cI, 6, .inl (fun _ => 0))), (a15, .inl (cI, 40, .inl (fun _ => 0))), (a16, .inl (cI, 40, .inl (fun _ => 0))), (a17, .inl (cI, 40, .inl (fun _ => 0)))] := hD
  refine lv_aload_n hx hb dX7_copyFrom_32 rfl (lv_at hl 0 rfl) ?_
  refine lv_aload_n hx hb dX7_copyFrom_33 rfl (lv_at hl 1 rfl) ?_
  refine va_get (D := D) (ci := 7) (v := .int 0) (C := RX7) (T := TX7) (N := 16) hx hb hts (fun w h => uc_in w (inX7 w h)) hown hK hP 0 rfl rfl 4 (by decide) (hts _ (uc_in _ q_f82)) (fun _ h9 => h9) rfl dX7_copyFrom_34 ?_
  refine va_put (D := D) (ci := 7) (v := .int 0) (ty := .int) (C := RX7) (T := TX7) (N := 16) hx hb hts (fun w h => uc_in w (inX7 w h)) tyX7 tyX7_ok nmX7 hown hK hP hD hS 9 rfl rfl 4 (by decide) (hts _ (uc_in _ q_f82)) (fun _ h9 => h9) rfl (by decide +kernel) rfl rfl (Nat.le_of_ble_eq_true rfl) dX7_copyFrom_37 (fun H locs hP hD hS => ?_)
  have hP : va_P D vwCl [(a1, .inr (7, [.int 0, .int 0, .int 0, .int 0, .int 0, .int 0, .int 0, .int 0, .ref a2, .ref a3, .ref a4, .ref a5, .ref a6, .ref a7, .ref a8, .ref a9])), (a2, .inl (cI, 6, .inl (fun _ => 0))), (a3, .inl (cI, 6, .inl (fun _ => 0))), (a4, .inl (cI, 6, .inl (fun _ => 0))), (a5, .inl (cI, 6, .inl (fun _ => 0))), (a6, .inl (cI, 6, .inl (fun _ => 0))), (a7, .inl (cI, 40, .inl (fun _ => 0))), (a8, .inl (cI, 40, .inl (fun _ => 0))), (a9, .inl (cI, 40, .inl (fun _ => 0))), (a0, .inr (7, [.int 0, .int 0, .int 0, .int 0, .int 0, .int 0, .int 0, .int 0, .ref a10, .ref a11, .ref a12, .ref a13, .ref a14, .ref a15, .ref a16, .ref a17])), (a10, .inl (cI, 6, .inl (fun _ => 0))), (a11, .inl (cI, 6, .inl (fun _ => 0))), (a12, .inl (cI, 6, .inl (fun _ => 0))), (a13, .inl (cI, 6, .inl (fun _ => 0))), (a14, .inl (cI, 6, .inl (fun _ => 0))), (a15, .inl (cI, 40, .inl (fun _ => 0))), (a16, .inl (cI, 40, .inl (fun _ => 0))), (a17, .inl (cI, 40, .inl (fun _ => 0)))] H := hP
  have hD : va_D AA [(a1, .inr (7, [.int 0, .int 0, .int 0, .int 0, .int 0, .int 0, .int 0, .int 0, .ref a2, .ref a3, .ref a4, .ref a5, .ref a6, .ref a7, .ref a8, .ref a9])), (a2, .inl (cI, 6, .inl (fun _ => 0))), (a3, .inl (cI, 6, .inl (fun _ => 0))), (a4, .inl (cI, 6, .inl (fun _ => 0))), (a5, .inl (cI, 6, .inl (fun _ => 0))), (a6, .inl (cI, 6, .inl (fun _ => 0))), (a7, .inl (cI, 40, .inl (fun _ => 0))), (a8, .inl (cI, 40, .inl (fun _ => 0))), (a9, .inl (cI, 40, .inl (fun _ => 0))), (a0, .inr (7, [.int 0, .int 0, .int 0, .int 0, .int 0, .int 0, .int 0, .int 0, .ref a10, .ref a11, .ref a12, .ref a13, .ref a14, .ref a15, .ref a16, .ref a17])), (a10, .inl (cI, 6, .inl (fun _ => 0))), (a11, .inl (cI, 6, .inl (fun _ => 0))), (a12, .inl (cI, 6, .inl (fun _ => 0))), (a13, .inl (cI, 6, .inl (fun _ => 0))), (a14, .inl (cI, 6, .inl (fun _ => 0))), (a15, .inl (cI, 40, .inl (fun _ => 0))), (a16, .inl (cI, 40, .inl (fun _ => 0))), (a17, .inl (cI, 40, .inl (fun _ => 0)))] := hD
  refine lv_aload_n hx hb dX7_copyFrom_40 rfl (lv_at hl 0 rfl) ?_
  refine lv_aload_n hx hb dX7_copyFrom_41 rfl (lv_at hl 1 rfl) ?_
  refine va_get (D := D) (ci := 7) (v := .int 0) (C := RX7) (T := TX7) (N := 16) hx hb hts (fun w h => uc_in w (inX7 w h)) hown hK hP 0 rfl rfl 5 (by decide) (hts _ (uc_in _ q_f85)) (fun _ h9 => h9) rfl dX7_copyFrom_42 ?_
  refine va_put (D := D) (ci := 7) (v := .int 0) (ty := .int) (C := RX7) (T := TX7) (N := 16) hx hb hts (fun w h => uc_in w (inX7 w h)) tyX7 tyX7_ok nmX7 hown hK hP hD hS 9 rfl rfl 5 (by decide) (hts _ (uc_in _ q_f85)) (fun _ h9 => h9) rfl (by decide +kernel) rfl rfl (Nat.le_of_ble_eq_true rfl) dX7_copyFrom_45 (fun H locs hP hD hS => ?_)
  have hP : va_P D vwCl [(a1, .inr (7, [.int 0, .int 0, .int 0, .int 0, .int 0, .int 0, .int 0, .int 0, .ref a2, .ref a3, .ref a4, .ref a5, .ref a6, .ref a7, .ref a8, .ref a9])), (a2, .inl (cI, 6, .inl (fun _ => 0))), (a3, .inl (cI, 6, .inl (fun _ => 0))), (a4, .inl (cI, 6, .inl (fun _ => 0))), (a5, .inl (cI, 6, .inl (fun _ => 0))), (a6, .inl (cI, 6, .inl (fun _ => 0))), (a7, .inl (cI, 40, .inl (fun _ => 0))), (a8, .inl (cI, 40, .inl (fun _ => 0))), (a9, .inl (cI, 40, .inl (fun _ => 0))), (a0, .inr (7, [.int 0, .int 0, .int 0, .int 0, .int 0, .int 0, .int 0, .int 0, .ref a10, .ref a11, .ref a12, .ref a13, .ref a14, .ref a15, .ref a16, .ref a17])), (a10, .inl (cI, 6, .inl (fun _ => 0))), (a11, .inl (cI, 6, .inl (fun _ => 0))), (a12, .inl (cI, 6, .inl (fun _ => 0))), (a13, .inl (cI, 6, .inl (fun _ => 0))), (a14, .inl (cI, 6, .inl (fun _ => 0))), (a15, .inl (cI, 40, .inl (fun _ => 0))), (a16, .inl (cI, 40, .inl (fun _ => 0))), (a17, .inl (cI, 40, .inl (fun _ => 0)))] H := hP
  have hD : va_D AA [(a1, .inr (7, [.int 0, .int 0, .int 0, .int 0, .int 0, .int 0, .int 0, .int 0, .ref a2, .ref a3, .ref a4, .ref a5, .ref a6, .ref a7, .ref a8, .ref a9])), (a2, .inl (cI, 6, .inl (fun _ => 0))), (a3, .inl (cI, 6, .inl (fun _ => 0))), (a4, .inl (cI, 6, .inl (fun _ => 0))), (a5, .inl (cI, 6, .inl (fun _ => 0))), (a6, .inl (cI, 6, .inl (fun _ => 0))), (a7, .inl (cI, 40, .inl (fun _ => 0))), (a8, .inl (cI, 40, .inl (fun _ => 0))), (a9, .inl (cI, 40, .inl (fun _ => 0))), (a0, .inr (7, [.int 0, .int 0, .int 0, .int 0, .int 0, .int 0, .int 0, .int 0, .ref a10, .ref a11, .ref a12, .ref a13, .ref a14, .ref a15, .ref a16, .ref a17])), (a10, .inl (cI, 6, .inl (fun _ => 0))), (a11, .inl (cI, 6, .inl (fun _ => 0))), (a12, .inl (cI, 6, .inl (fun _ => 0))), (a13, .inl (cI, 6, .inl (fun _ => 0))), (a14, .inl (cI, 6, .inl (fun _ => 0))), (a15, .inl (cI, 40, .inl (fun _ => 0))), (a16, .inl (cI, 40, .inl (fun _ => 0))), (a17, .inl (cI, 40, .inl (fun _ => 0)))] := hD
  refine lv_aload_n hx hb dX7_copyFrom_48 rfl (lv_at hl 0 rfl) ?_
  refine lv_aload_n hx hb dX7_copyFrom_49 rfl (lv_at hl 1 rfl) ?_
  refine va_get (D := D) (ci := 7) (v := .int 0) (C := RX7) (T := TX7) (N := 16) hx hb hts (fun w h => uc_in w (inX7 w h)) hown hK hP 0 rfl rfl 6 (by decide) (hts _ (uc_in _ q_f88)) (fun _ h9 => h9) rfl dX7_copyFrom_50 ?_
  refine va_put (D := D) (ci := 7) (v := .int 0) (ty := .int) (C := RX7) (T := TX7) (N := 16) hx hb hts (fun w h => uc_in w (inX7 w h)) tyX7 tyX7_ok nmX7 hown hK hP hD hS 9 rfl rfl 6 (by decide) (hts _ (uc_in _ q_f88)) (fun _ h9 => h9) rfl (by decide +kernel) rfl rfl (Nat.le_of_ble_eq_true rfl) dX7_copyFrom_53 (fun H locs hP hD hS => ?_)
  have hP : va_P D vwCl [(a1, .inr (7, [.int 0, .int 0, .int 0, .int 0, .int 0, .int 0, .int 0, .int 0, .ref a2, .ref a3, .ref a4, .ref a5, .ref a6, .ref a7, .ref a8, .ref a9])), (a2, .inl (cI, 6, .inl (fun _ => 0))), (a3, .inl (cI, 6, .inl (fun _ => 0))), (a4, .inl (cI, 6, .inl (fun _ => 0))), (a5, .inl (cI, 6, .inl (fun _ => 0))), (a6, .inl (cI, 6, .inl (fun _ => 0))), (a7, .inl (cI, 40, .inl (fun _ => 0))), (a8, .inl (cI, 40, .inl (fun _ => 0))), (a9, .inl (cI, 40, .inl (fun _ => 0))), (a0, .inr (7, [.int 0, .int 0, .int 0, .int 0, .int 0, .int 0, .int 0, .int 0, .ref a10, .ref a11, .ref a12, .ref a13, .ref a14, .ref a15, .ref a16, .ref a17])), (a10, .inl (cI, 6, .inl (fun _ => 0))), (a11, .inl (cI, 6, .inl (fun _ => 0))), (a12, .inl (cI, 6, .inl (fun _ => 0))), (a13, .inl (cI, 6, .inl (fun _ => 0))), (a14, .inl (cI, 6, .inl (fun _ => 0))), (a15, .inl (cI, 40, .inl (fun _ => 0))), (a16, .inl (cI, 40, .inl (fun _ => 0))), (a17, .inl (cI, 40, .inl (fun _ => 0)))] H := hP
  have hD : va_D AA [(a1, .inr (7, [.int 0, .int 0, .int 0, .int 0, .int 0, .int 0, .int 0, .int 0, .ref a2, .ref a3, .ref a4, .ref a5, .ref a6, .ref a7, .ref a8, .ref a9])), (a2, .inl (cI, 6, .inl (fun _ => 0))), (a3, .inl (cI, 6, .inl (fun _ => 0))), (a4, .inl (cI, 6, .inl (fun _ => 0))), (a5, .inl (cI, 6, .inl (fun _ => 0))), (a6, .inl (cI, 6, .inl (fun _ => 0))), (a7, .inl (cI, 40, .inl (fun _ => 0))), (a8, .inl (cI, 40, .inl (fun _ => 0))), (a9, .inl (cI, 40, .inl (fun _ => 0))), (a0, .inr (7, [.int 0, .int 0, .int 0, .int 0, .int 0, .int 0, .int 0, .int 0, .ref a10, .ref a11, .ref a12, .ref a13, .ref a14, .ref a15, .ref a16, .ref a17])), (a10, .inl (cI, 6, .inl (fun _ => 0))), (a11, .inl (cI, 6, .inl (fun _ => 0))), (a12, .inl (cI, 6, .inl (fun _ => 0))), (a13, .inl (cI, 6, .inl (fun _ => 0))), (a14, .inl (cI, 6, .inl (fun _ => 0))), (a15, .inl (cI, 40, .inl (fun _ => 0))), (a16, .inl (cI, 40, .inl (fun _ => 0))), (a17, .inl (cI, 40, .inl (fun _ => 0)))] := hD
  refine lv_aload_n hx hb dX7_copyFrom_56 rfl (lv_at hl 0 rfl) ?_
  refine lv_aload_n hx hb dX7_copyFrom_57 rfl (lv_at hl 1 rfl) ?_
  refine va_get (D := D) (ci := 7) (v := .int 0) (C := RX7) (T := TX7) (N := 16) hx hb hts (fun w h => uc_in w (inX7 w h)) hown hK hP 0 rfl rfl 7 (by decide) (hts _ (uc_in _ q_f92)) (fun _ h9 => h9) rfl dX7_copyFrom_58 ?_
  refine va_put (D := D) (ci := 7) (v := .int 0) (ty := .int) (C := RX7) (T := TX7) (N := 16) hx hb hts (fun w h => uc_in w (inX7 w h)) tyX7 tyX7_ok nmX7 hown hK hP hD hS 9 rfl rfl 7 (by decide) (hts _ (uc_in _ q_f92)) (fun _ h9 => h9) rfl (by decide +kernel) rfl rfl (Nat.le_of_ble_eq_true rfl) dX7_copyFrom_61 (fun H locs hP hD hS => ?_)
  have hP : va_P D vwCl [(a1, .inr (7, [.int 0, .int 0, .int 0, .int 0, .int 0, .int 0, .int 0, .int 0, .ref a2, .ref a3, .ref a4, .ref a5, .ref a6, .ref a7, .ref a8, .ref a9])), (a2, .inl (cI, 6, .inl (fun _ => 0))), (a3, .inl (cI, 6, .inl (fun _ => 0))), (a4, .inl (cI, 6, .inl (fun _ => 0))), (a5, .inl (cI, 6, .inl (fun _ => 0))), (a6, .inl (cI, 6, .inl (fun _ => 0))), (a7, .inl (cI, 40, .inl (fun _ => 0))), (a8, .inl (cI, 40, .inl (fun _ => 0))), (a9, .inl (cI, 40, .inl (fun _ => 0))), (a0, .inr (7, [.int 0, .int 0, .int 0, .int 0, .int 0, .int 0, .int 0, .int 0, .ref a10, .ref a11, .ref a12, .ref a13, .ref a14, .ref a15, .ref a16, .ref a17])), (a10, .inl (cI, 6, .inl (fun _ => 0))), (a11, .inl (cI, 6, .inl (fun _ => 0))), (a12, .inl (cI, 6, .inl (fun _ => 0))), (a13, .inl (cI, 6, .inl (fun _ => 0))), (a14, .inl (cI, 6, .inl (fun _ => 0))), (a15, .inl (cI, 40, .inl (fun _ => 0))), (a16, .inl (cI, 40, .inl (fun _ => 0))), (a17, .inl (cI, 40, .inl (fun _ => 0)))] H := hP
  have hD : va_D AA [(a1, .inr (7, [.int 0, .int 0, .int 0, .int 0, .int 0, .int 0, .int 0, .int 0, .ref a2, .ref a3, .ref a4, .ref a5, .ref a6, .ref a7, .ref a8, .ref a9])), (a2, .inl (cI, 6, .inl (fun _ => 0))), (a3, .inl (cI, 6, .inl (fun _ => 0))), (a4, .inl (cI, 6, .inl (fun _ => 0))), (a5, .inl (cI, 6, .inl (fun _ => 0))), (a6, .inl (cI, 6, .inl (fun _ => 0))), (a7, .inl (cI, 40, .inl (fun _ => 0))), (a8, .inl (cI, 40, .inl (fun _ => 0))), (a9, .inl (cI, 40, .inl (fun _ => 0))), (a0, .inr (7, [.int 0, .int 0, .int 0, .int 0, .int 0, .int 0, .int 0, .int 0, .ref a10, .ref a11, .ref a12, .ref a13, .ref a14, .ref a15, .ref a16, .ref a17])), (a10, .inl (cI, 6, .inl (fun _ => 0))), (a11, .inl (cI, 6, .inl (fun _ => 0))), (a12, .inl (cI, 6, .inl (fun _ => 0))), (a13, .inl (cI, 6, .inl (fun _ => 0))), (a14, .inl (cI, 6, .inl (fun _ => 0))), (a15, .inl (cI, 40, .inl (fun _ => 0))), (a16, .inl (cI, 40, .inl (fun _ => 0))), (a17, .inl (cI, 40, .inl (fun _ => 0)))] := hD
  refine lv_aload_n hx hb dX7_copyFrom_64 rfl (lv_at hl 1 rfl) ?_
  refine va_get (D := D) (ci := 7) (v := .ref a2) (C := RX7) (T := TX7) (N := 16) hx hb hts (fun w h => uc_in w (inX7 w h)) hown hK hP 0 rfl rfl 8 (by decide) (hts _ (uc_in _ q_f95)) (fun _ h9 => h9) rfl dX7_copyFrom_65 ?_
  refine lv_iconst (v := 0) hx hb dX7_copyFrom_68 (by decide) ?_
  refine lv_aload_n hx hb dX7_copyFrom_69 rfl (lv_at hl 0 rfl) ?_
  refine va_get (D := D) (ci := 7) (v := .ref a10) (C := RX7) (T := TX7) (N := 16) hx hb hts (fun w h => uc_in w (inX7 w h)) hown hK hP 9 rfl rfl 8 (by decide) (hts _ (uc_in _ q_f95)) (fun _ h9 => h9) rfl dX7_copyFrom_70 ?_
  refine lv_iconst (v := 0) hx hb dX7_copyFrom_73 (by decide) ?_
  refine lv_bipush (v := 6) hx hb dX7_copyFrom_74 (by decide) ?_
  refine va_copyi hx hb (by rw [hml]; exact hl.1.symm) hown (hts _ (uc_in _ q_m560)) (hts _ (uc_in _ q_nat)) (hts _ (uc_in _ q_s561)) (hts _ (uc_in _ q_i17)) hK hP hD hS 1 10 1 1 rfl rfl rfl rfl rfl (by decide) (by decide) (by decide) (by decide) (by decide) (fun _ _ => rfl) (Nat.le_of_ble_eq_true rfl) (by decide +kernel) dX7_copyFrom_76 (fun H locs hP hD hS => ?_)
  generalize va_cpy (α := Int32) (fun _ => 0) (fun _ => 0) (Int32.toNatClampNeg 0) (Int32.toNatClampNeg 0) (Int32.toNatClampNeg 6) = f1 at hP hD
  have hP : va_P D vwCl [(a1, .inr (7, [.int 0, .int 0, .int 0, .int 0, .int 0, .int 0, .int 0, .int 0, .ref a2, .ref a3, .ref a4, .ref a5, .ref a6, .ref a7, .ref a8, .ref a9])), (a2, .inl (cI, 6, .inl (fun _ => 0))), (a3, .inl (cI, 6, .inl (fun _ => 0))), (a4, .inl (cI, 6, .inl (fun _ => 0))), (a5, .inl (cI, 6, .inl (fun _ => 0))), (a6, .inl (cI, 6, .inl (fun _ => 0))), (a7, .inl (cI, 40, .inl (fun _ => 0))), (a8, .inl (cI, 40, .inl (fun _ => 0))), (a9, .inl (cI, 40, .inl (fun _ => 0))), (a0, .inr (7, [.int 0, .int 0, .int 0, .int 0, .int 0, .int 0, .int 0, .int 0, .ref a10, .ref a11, .ref a12, .ref a13, .ref a14, .ref a15, .ref a16, .ref a17])), (a10, .inl (cI, 6, .inl f1)), (a11, .inl (cI, 6, .inl (fun _ => 0))), (a12, .inl (cI, 6, .inl (fun _ => 0))), (a13, .inl (cI, 6, .inl (fun _ => 0))), (a14, .inl (cI, 6, .inl (fun _ => 0))), (a15, .inl (cI, 40, .inl (fun _ => 0))), (a16, .inl (cI, 40, .inl (fun _ => 0))), (a17, .inl (cI, 40, .inl (fun _ => 0)))] H := hP
  have hD : va_D AA [(a1, .inr (7, [.int 0, .int 0, .int 0, .int 0, .int 0, .int 0, .int 0, .int 0, .ref a2, .ref a3, .ref a4, .ref a5, .ref a6, .ref a7, .ref a8, .ref a9])), (a2, .inl (cI, 6, .inl (fun _ => 0))), (a3, .inl (cI, 6, .inl (fun _ => 0))), (a4, .inl (cI, 6, .inl (fun _ => 0))), (a5, .inl (cI, 6, .inl (fun _ => 0))), (a6, .inl (cI, 6, .inl (fun _ => 0))), (a7, .inl (cI, 40, .inl (fun _ => 0))), (a8, .inl (cI, 40, .inl (fun _ => 0))), (a9, .inl (cI, 40, .inl (fun _ => 0))), (a0, .inr (7, [.int 0, .int 0, .int 0, .int 0, .int 0, .int 0, .int 0, .int 0, .ref a10, .ref a11, .ref a12, .ref a13, .ref a14, .ref a15, .ref a16, .ref a17])), (a10, .inl (cI, 6, .inl f1)), (a11, .inl (cI, 6, .inl (fun _ => 0))), (a12, .inl (cI, 6, .inl (fun _ => 0))), (a13, .inl (cI, 6, .inl (fun _ => 0))), (a14, .inl (cI, 6, .inl (fun _ => 0))), (a15, .inl (cI, 40, .inl (fun _ => 0))), (a16, .inl (cI, 40, .inl (fun _ => 0))), (a17, .inl (cI, 40, .inl (fun _ => 0)))] := hD
  refine lv_aload_n hx hb dX7_copyFrom_79 rfl (lv_at hl 1 rfl) ?_
  refine va_get (D := D) (ci := 7) (v := .ref a3) (C := RX7) (T := TX7) (N := 16) hx hb hts (fun w h => uc_in w (inX7 w h)) hown hK hP 0 rfl rfl 9 (by decide) (hts _ (uc_in _ q_f99)) (fun _ h9 => h9) rfl dX7_copyFrom_80 ?_
  refine lv_iconst (v := 0) hx hb dX7_copyFrom_83 (by decide) ?_
  refine lv_aload_n hx hb dX7_copyFrom_84 rfl (lv_at hl 0 rfl) ?_
  refine va_get (D := D) (ci := 7) (v := .ref a11) (C := RX7) (T := TX7) (N := 16) hx hb hts (fun w h => uc_in w (inX7 w h)) hown hK hP 9 rfl rfl 9 (by decide) (hts _ (uc_in _ q_f99)) (fun _ h9 => h9) rfl dX7_copyFrom_85 ?_
  refine lv_iconst (v := 0) hx hb dX7_copyFrom_88 (by decide) ?_
  refine lv_bipush (v := 6) hx hb dX7_copyFrom_89 (by decide) ?_
  refine va_copyi hx hb (by rw [hml]; exact hl.1.symm) hown (hts _ (uc_in _ q_m560)) (hts _ (uc_in _ q_nat)) (hts _ (uc_in _ q_s561)) (hts _ (uc_in _ q_i17)) hK hP hD hS 2 11 1 1 rfl rfl rfl rfl rfl (by decide) (by decide) (by decide) (by decide) (by decide) (fun _ _ => rfl) (Nat.le_of_ble_eq_true rfl) (by decide +kernel) dX7_copyFrom_91 (fun H locs hP hD hS => ?_)
  generalize va_cpy (α := Int32) (fun _ => 0) (fun _ => 0) (Int32.toNatClampNeg 0) (Int32.toNatClampNeg 0) (Int32.toNatClampNeg 6) = f2 at hP hD
  have hP : va_P D vwCl [(a1, .inr (7, [.int 0, .int 0, .int 0, .int 0, .int 0, .int 0, .int 0, .int 0, .ref a2, .ref a3, .ref a4, .ref a5, .ref a6, .ref a7, .ref a8, .ref a9])), (a2, .inl (cI, 6, .inl (fun _ => 0))), (a3, .inl (cI, 6, .inl (fun _ => 0))), (a4, .inl (cI, 6, .inl (fun _ => 0))), (a5, .inl (cI, 6, .inl (fun _ => 0))), (a6, .inl (cI, 6, .inl (fun _ => 0))), (a7, .inl (cI, 40, .inl (fun _ => 0))), (a8, .inl (cI, 40, .inl (fun _ => 0))), (a9, .inl (cI, 40, .inl (fun _ => 0))), (a0, .inr (7, [.int 0, .int 0, .int 0, .int 0, .int 0, .int 0, .int 0, .int 0, .ref a10, .ref a11, .ref a12, .ref a13, .ref a14, .ref a15, .ref a16, .ref a17])), (a10, .inl (cI, 6, .inl f1)), (a11, .inl (cI, 6, .inl f2)), (a12, .inl (cI, 6, .inl (fun _ => 0))), (a13, .inl (cI, 6, .inl (fun _ => 0))), (a14, .inl (cI, 6, .inl (fun _ => 0))), (a15, .inl (cI, 40, .inl (fun _ => 0))), (a16, .inl (cI, 40, .inl (fun _ => 0))), (a17, .inl (cI, 40, .inl (fun _ => 0)))] H := hP
  have hD : va_D AA [(a1, .inr (7, [.int 0, .int 0, .int 0, .int 0, .int 0, .int 0, .int 0, .int 0, .ref a2, .ref a3, .ref a4, .ref a5, .ref a6, .ref a7, .ref a8, .ref a9])), (a2, .inl (cI, 6, .inl (fun _ => 0))), (a3, .inl (cI, 6, .inl (fun _ => 0))), (a4, .inl (cI, 6, .inl (fun _ => 0))), (a5, .inl (cI, 6, .inl (fun _ => 0))), (a6, .inl (cI, 6, .inl (fun _ => 0))), (a7, .inl (cI, 40, .inl (fun _ => 0))), (a8, .inl (cI, 40, .inl (fun _ => 0))), (a9, .inl (cI, 40, .inl (fun _ => 0))), (a0, .inr (7, [.int 0, .int 0, .int 0, .int 0, .int 0, .int 0, .int 0, .int 0, .ref a10, .ref a11, .ref a12, .ref a13, .ref a14, .ref a15, .ref a16, .ref a17])), (a10, .inl (cI, 6, .inl f1)), (a11, .inl (cI, 6, .inl f2)), (a12, .inl (cI, 6, .inl (fun _ => 0))), (a13, .inl (cI, 6, .inl (fun _ => 0))), (a14, .inl (cI, 6, .inl (fun _ => 0))), (a15, .inl (cI, 40, .inl (fun _ => 0))), (a16, .inl (cI, 40, .inl (fun _ => 0))), (a17, .inl (cI, 40, .inl (fun _ => 0)))] := hD
  refine lv_aload_n hx hb dX7_copyFrom_94 rfl (lv_at hl 1 rfl) ?_
  refine va_get (D := D) (ci := 7) (v := .ref a4) (C := RX7) (T := TX7) (N := 16) hx hb hts (fun w h => uc_in w (inX7 w h)) hown hK hP 0 rfl rfl 10 (by decide) (hts _ (uc_in _ q_f103)) (fun _ h9 => h9) rfl dX7_copyFrom_95 ?_
  refine lv_iconst (v := 0) hx hb dX7_copyFrom_98 (by decide) ?_
  refine lv_aload_n hx hb dX7_copyFrom_99 rfl (lv_at hl 0 rfl) ?_
  refine va_get (D := D) (ci := 7) (v := .ref a12) (C := RX7) (T := TX7) (N := 16) hx hb hts (fun w h => uc_in w (inX7 w h)) hown hK hP 9 rfl rfl 10 (by decide) (hts _ (uc_in _ q_f103)) (fun _ h9 => h9) rfl dX7_copyFrom_100 ?_
  refine lv_iconst (v := 0) hx hb dX7_copyFrom_103 (by decide) ?_
  refine lv_bipush (v := 6) hx hb dX7_copyFrom_104 (by decide) ?_
  refine va_copyi hx hb (by rw [hml]; exact hl.1.symm) hown (hts _ (uc_in _ q_m560)) (hts _ (uc_in _ q_nat)) (hts _ (uc_in _ q_s561)) (hts _ (uc_in _ q_i17)) hK hP hD hS 3 12 1 1 rfl rfl rfl rfl rfl (by decide) (by decide) (by decide) (by decide) (by decide) (fun _ _ => rfl) (Nat.le_of_ble_eq_true rfl) (by decide +kernel) dX7_copyFrom_106 (fun H locs hP hD hS => ?_)
  generalize va_cpy (α := Int32) (fun _ => 0) (fun _ => 0) (Int32.toNatClampNeg 0) (Int32.toNatClampNeg 0) (Int32.toNatClampNeg 6) = f3 at hP hD
  have hP : va_P D vwCl [(a1, .inr (7, [.int 0, .int 0, .int 0, .int 0, .int 0, .int 0, .int 0, .int 0, .ref a2, .ref a3, .ref a4, .ref a5, .ref a6, .ref a7, .ref a8, .ref a9])), (a2, .inl (cI, 6, .inl (fun _ => 0))), (a3, .inl (cI, 6, .inl (fun _ => 0))), (a4, .inl (cI, 6, .inl (fun _ => 0))), (a5, .inl (cI, 6, .inl (fun _ => 0))), (a6, .inl (cI, 6, .inl (fun _ => 0))), (a7, .inl (cI, 40, .inl (fun _ => 0))), (a8, .inl (cI, 40, .inl (fun _ => 0))), (a9, .inl (cI, 40, .inl (fun _ => 0))), (a0, .inr (7, [.int 0, .int 0, .int 0, .int 0, .int 0, .int 0, .int 0, .int 0, .ref a10, .ref a11, .ref a12, .ref a13, .ref a14, .ref a15, .ref a16, .ref a17])), (a10, .inl (cI, 6, .inl f1)), (a11, .inl (cI, 6, .inl f2)), (a12, .inl (cI, 6, .inl f3)), (a13, .inl (cI, 6, .inl (fun _ => 0))), (a14, .inl (cI, 6, .inl (fun _ => 0))), (a15, .inl (cI, 40, .inl (fun _ => 0))), (a16, .inl (cI, 40, .inl (fun _ => 0))), (a17, .inl (cI, 40, .inl (fun _ => 0)))] H := hP
  have hD : va_D AA [(a1, .inr (7, [.int 0, .int 0, .int 0, .int 0, .int 0, .int 0, .int 0, .int 0, .ref a2, .ref a3, .ref a4, .ref a5, .ref a6, .ref a7, .ref a8, .ref a9])), (a2, .inl (cI, 6, .inl (fun _ => 0))), (a3, .inl (cI, 6, .inl (fun _ => 0))), (a4, .inl (cI, 6, .inl (fun _ => 0))), (a5, .inl (cI, 6, .inl (fun _ => 0))), (a6, .inl (cI, 6, .inl (fun _ => 0))), (a7, .inl (cI, 40, .inl (fun _ => 0))), (a8, .inl (cI, 40, .inl (fun _ => 0))), (a9, .inl (cI, 40, .inl (fun _ => 0))), (a0, .inr (7, [.int 0, .int 0, .int 0, .int 0, .int 0, .int 0, .int 0, .int 0, .ref a10, .ref a11, .ref a12, .ref a13, .ref a14, .ref a15, .ref a16, .ref a17])), (a10, .inl (cI, 6, .inl f1)), (a11, .inl (cI, 6, .inl f2)), (a12, .inl (cI, 6, .inl f3)), (a13, .inl (cI, 6, .inl (fun _ => 0))), (a14, .inl (cI, 6, .inl (fun _ => 0))), (a15, .inl (cI, 40, .inl (fun _ => 0))), (a16, .inl (cI, 40, .inl (fun _ => 0))), (a17, .inl (cI, 40, .inl (fun _ => 0)))] := hD
  refine lv_aload_n hx hb dX7_copyFrom_109 rfl (lv_at hl 1 rfl) ?_
  refine va_get (D := D) (ci := 7) (v := .ref a5) (C := RX7) (T := TX7) (N := 16) hx hb hts (fun w h => uc_in w (inX7 w h)) hown hK hP 0 rfl rfl 11 (by decide) (hts _ (uc_in _ q_f107)) (fun _ h9 => h9) rfl dX7_copyFrom_110 ?_
  refine lv_iconst (v := 0) hx hb dX7_copyFrom_113 (by decide) ?_
  refine lv_aload_n hx hb dX7_copyFrom_114 rfl (lv_at hl 0 rfl) ?_
  refine va_get (D := D) (ci := 7) (v := .ref a13) (C := RX7) (T := TX7) (N := 16) hx hb hts (fun w h => uc_in w (inX7 w h)) hown hK hP 9 rfl rfl 11 (by decide) (hts _ (uc_in _ q_f107)) (fun _ h9 => h9) rfl dX7_copyFrom_115 ?_
  refine lv_iconst (v := 0) hx hb dX7_copyFrom_118 (by decide) ?_
  refine lv_bipush (v := 6) hx hb dX7_copyFrom_119 (by decide) ?_
  refine va_copyi hx hb (by rw [hml]; exact hl.1.symm) hown (hts _ (uc_in _ q_m560)) (hts _ (uc_in _ q_nat)) (hts _ (uc_in _ q_s561)) (hts _ (uc_in _ q_i17)) hK hP hD hS 4 13 1 1 rfl rfl rfl rfl rfl (by decide) (by decide) (by decide) (by decide) (by decide) (fun _ _ => rfl) (Nat.le_of_ble_eq_true rfl) (by decide +kernel) dX7_copyFrom_121 (fun H locs hP hD hS => ?_)
  generalize va_cpy (α := Int32) (fun _ => 0) (fun _ => 0) (Int32.toNatClampNeg 0) (Int32.toNatClampNeg 0) (Int32.toNatClampNeg 6) = f4 at hP hD
  have hP : va_P D vwCl [(a1, .inr (7, [.int 0, .int 0, .int 0, .int 0, .int 0, .int 0, .int 0, .int 0, .ref a2, .ref a3, .ref a4, .ref a5, .ref a6, .ref a7, .ref a8, .ref a9])), (a2, .inl (cI, 6, .inl (fun _ => 0))), (a3, .inl (cI, 6, .inl (fun _ => 0))), (a4, .inl (cI, 6, .inl (fun _ => 0))), (a5, .inl (cI, 6, .inl (fun _ => 0))), (a6, .inl (cI, 6, .inl (fun _ => 0))), (a7, .inl (cI, 40, .inl (fun _ => 0))), (a8, .inl (cI, 40, .inl (fun _ => 0))), (a9, .inl (cI, 40, .inl (fun _ => 0))), (a0, .inr (7, [.int 0, .int 0, .int 0, .int 0, .int 0, .int 0, .int 0, .int 0, .ref a10, .ref a11, .ref a12, .ref a13, .ref a14, .ref a15, .ref a16, .ref a17])), (a10, .inl (cI, 6, .inl f1)), (a11, .inl (cI, 6, .inl f2)), (a12, .inl (cI, 6, .inl f3)), (a13, .inl (cI, 6, .inl f4)), (a14, .inl (cI, 6, .inl (fun _ => 0))), (a15, .inl (cI, 40, .inl (fun _ => 0))), (a16, .inl (cI, 40, .inl (fun _ => 0))), (a17, .inl (cI, 40, .inl (fun _ => 0)))] H := hP
  have hD : va_D AA [(a1, .inr (7, [.int 0, .int 0, .int 0, .int 0, .int 0, .int 0, .int 0, .int 0, .ref a2, .ref a3, .ref a4, .ref a5, .ref a6, .ref a7, .ref a8, .ref a9])), (a2, .inl (cI, 6, .inl (fun _ => 0))), (a3, .inl (cI, 6, .inl (fun _ => 0))), (a4, .inl (cI, 6, .inl (fun _ => 0))), (a5, .inl (cI, 6, .inl (fun _ => 0))), (a6, .inl (cI, 6, .inl (fun _ => 0))), (a7, .inl (cI, 40, .inl (fun _ => 0))), (a8, .inl (cI, 40, .inl (fun _ => 0))), (a9, .inl (cI, 40, .inl (fun _ => 0))), (a0, .inr (7, [.int 0, .int 0, .int 0, .int 0, .int 0, .int 0, .int 0, .int 0, .ref a10, .ref a11, .ref a12, .ref a13, .ref a14, .ref a15, .ref a16, .ref a17])), (a10, .inl (cI, 6, .inl f1)), (a11, .inl (cI, 6, .inl f2)), (a12, .inl (cI, 6, .inl f3)), (a13, .inl (cI, 6, .inl f4)), (a14, .inl (cI, 6, .inl (fun _ => 0))), (a15, .inl (cI, 40, .inl (fun _ => 0))), (a16, .inl (cI, 40, .inl (fun _ => 0))), (a17, .inl (cI, 40, .inl (fun _ => 0)))] := hD
  refine lv_aload_n hx hb dX7_copyFrom_124 rfl (lv_at hl 1 rfl) ?_
  refine va_get (D := D) (ci := 7) (v := .ref a6) (C := RX7) (T := TX7) (N := 16) hx hb hts (fun w h => uc_in w (inX7 w h)) hown hK hP 0 rfl rfl 12 (by decide) (hts _ (uc_in _ q_f111)) (fun _ h9 => h9) rfl dX7_copyFrom_125 ?_
  refine lv_iconst (v := 0) hx hb dX7_copyFrom_128 (by decide) ?_
  refine lv_aload_n hx hb dX7_copyFrom_129 rfl (lv_at hl 0 rfl) ?_
  refine va_get (D := D) (ci := 7) (v := .ref a14) (C := RX7) (T := TX7) (N := 16) hx hb hts (fun w h => uc_in w (inX7 w h)) hown hK hP 9 rfl rfl 12 (by decide) (hts _ (uc_in _ q_f111)) (fun _ h9 => h9) rfl dX7_copyFrom_130 ?_
  refine lv_iconst (v := 0) hx hb dX7_copyFrom_133 (by decide) ?_
  refine lv_bipush (v := 6) hx hb dX7_copyFrom_134 (by decide) ?_
  refine va_copyi hx hb (by rw [hml]; exact hl.1.symm) hown (hts _ (uc_in _ q_m560)) (hts _ (uc_in _ q_nat)) (hts _ (uc_in _ q_s561)) (hts _ (uc_in _ q_i17)) hK hP hD hS 5 14 1 1 rfl rfl rfl rfl rfl (by decide) (by decide) (by decide) (by decide) (by decide) (fun _ _ => rfl) (Nat.le_of_ble_eq_true rfl) (by decide +kernel) dX7_copyFrom_136 (fun H locs hP hD hS => ?_)
  generalize va_cpy (α := Int32) (fun _ => 0) (fun _ => 0) (Int32.toNatClampNeg 0) (Int32.toNatClampNeg 0) (Int32.toNatClampNeg 6) = f5 at hP hD
  have hP : va_P D vwCl [(a1, .inr (7, [.int 0, .int 0, .int 0, .int 0, .int 0, .int 0, .int 0, .int 0, .ref a2, .ref a3, .ref a4, .ref a5, .ref a6, .ref a7, .ref a8, .ref a9])), (a2, .inl (cI, 6, .inl (fun _ => 0))), (a3, .inl (cI, 6, .inl (fun _ => 0))), (a4, .inl (cI, 6, .inl (fun _ => 0))), (a5, .inl (cI, 6, .inl (fun _ => 0))), (a6, .inl (cI, 6, .inl (fun _ => 0))), (a7, .inl (cI, 40, .inl (fun _ => 0))), (a8, .inl (cI, 40, .inl (fun _ => 0))), (a9, .inl (cI, 40, .inl (fun _ => 0))), (a0, .inr (7, [.int 0, .int 0, .int 0, .int 0, .int 0, .int 0, .int 0, .int 0, .ref a10, .ref a11, .ref a12, .ref a13, .ref a14, .ref a15, .ref a16, .ref a17])), (a10, .inl (cI, 6, .inl f1)), (a11, .inl (cI, 6, .inl f2)), (a12, .inl (cI, 6, .inl f3)), (a13, .inl (cI, 6, .inl f4)), (a14, .inl (cI, 6, .inl f5)), (a15, .inl (cI, 40, .inl (fun _ => 0))), (a16, .inl (cI, 40, .inl (fun _ => 0))), (a17, .inl (cI, 40, .inl (fun _ => 0)))] H := hP
  have hD : va_D AA [(a1, .inr (7, [.int 0, .int 0, .int 0, .int 0, .int 0, .int 0, .int 0, .int 0, .ref a2, .ref a3, .ref a4, .ref a5, .ref a6, .ref a7, .ref a8, .ref a9])), (a2, .inl (cI, 6, .inl (fun _ => 0))), (a3, .inl (cI, 6, .inl (fun _ => 0))), (a4, .inl (cI, 6, .inl (fun _ => 0))), (a5, .inl (cI, 6, .inl (fun _ => 0))), (a6, .inl (cI, 6, .inl (fun _ => 0))), (a7, .inl (cI, 40, .inl (fun _ => 0))), (a8, .inl (cI, 40, .inl (fun _ => 0))), (a9, .inl (cI, 40, .inl (fun _ => 0))), (a0, .inr (7, [.int 0, .int 0, .int 0, .int 0, .int 0, .int 0, .int 0, .int 0, .ref a10, .ref a11, .ref a12, .ref a13, .ref a14, .ref a15, .ref a16, .ref a17])), (a10, .inl (cI, 6, .inl f1)), (a11, .inl (cI, 6, .inl f2)), (a12, .inl (cI, 6, .inl f3)), (a13, .inl (cI, 6, .inl f4)), (a14, .inl (cI, 6, .inl f5)), (a15, .inl (cI, 40, .inl (fun _ => 0))), (a16, .inl (cI, 40, .inl (fun _ => 0))), (a17, .inl (cI, 40, .inl (fun _ => 0)))] := hD
  refine lv_aload_n hx hb dX7_copyFrom_139 rfl (lv_at hl 1 rfl) ?_
  refine va_get (D := D) (ci := 7) (v := .ref a7) (C := RX7) (T := TX7) (N := 16) hx hb hts (fun w h => uc_in w (inX7 w h)) hown hK hP 0 rfl rfl 13 (by decide) (hts _ (uc_in _ q_f115)) (fun _ h9 => h9) rfl dX7_copyFrom_140 ?_
  refine lv_iconst (v := 0) hx hb dX7_copyFrom_143 (by decide) ?_
  refine lv_aload_n hx hb dX7_copyFrom_144 rfl (lv_at hl 0 rfl) ?_
  refine va_get (D := D) (ci := 7) (v := .ref a15) (C := RX7) (T := TX7) (N := 16) hx hb hts (fun w h => uc_in w (inX7 w h)) hown hK hP 9 rfl rfl 13 (by decide) (hts _ (uc_in _ q_f115)) (fun _ h9 => h9) rfl dX7_copyFrom_145 ?_
  refine lv_iconst (v := 0) hx hb dX7_copyFrom_148 (by decide) ?_
  refine lv_bipush (v := 40) hx hb dX7_copyFrom_149 (by decide) ?_
  refine va_copyi hx hb (by rw [hml]; exact hl.1.symm) hown (hts _ (uc_in _ q_m560)) (hts _ (uc_in _ q_nat)) (hts _ (uc_in _ q_s561)) (hts _ (uc_in _ q_i17)) hK hP hD hS 6 15 1 1 rfl rfl rfl rfl rfl (by decide) (by decide) (by decide) (by decide) (by decide) (fun _ _ => rfl) (Nat.le_of_ble_eq_true rfl) (by decide +kernel) dX7_copyFrom_151 (fun H locs hP hD hS => ?_)
  generalize va_cpy (α := Int32) (fun _ => 0) (fun _ => 0) (Int32.toNatClampNeg 0) (Int32.toNatClampNeg 0) (Int32.toNatClampNeg 40) = f6 at hP hD
  have hP : va_P D vwCl [(a1, .inr (7, [.int 0, .int 0, .int 0, .int 0, .int 0, .int 0, .int 0, .int 0, .ref a2, .ref a3, .ref a4, .ref a5, .ref a6, .ref a7, .ref a8, .ref a9])), (a2, .inl (cI, 6, .inl (fun _ => 0))), (a3, .inl (cI, 6, .inl (fun _ => 0))), (a4, .inl (cI, 6, .inl (fun _ => 0))), (a5, .inl (cI, 6, .inl (fun _ => 0))), (a6, .inl (cI, 6, .inl (fun _ => 0))), (a7, .inl (cI, 40, .inl (fun _ => 0))), (a8, .inl (cI, 40, .inl (fun _ => 0))), (a9, .inl (cI, 40, .inl (fun _ => 0))), (a0, .inr (7, [.int 0, .int 0, .int 0, .int 0, .int 0, .int 0, .int 0, .int 0, .ref a10, .ref a11, .ref a12, .ref a13, .ref a14, .ref a15, .ref a16, .ref a17])), (a10, .inl (cI, 6, .inl f1)), (a11, .inl (cI, 6, .inl f2)), (a12, .inl (cI, 6, .inl f3)), (a13, .inl (cI, 6, .inl f4)), (a14, .inl (cI, 6, .inl f5)), (a15, .inl (cI, 40, .inl f6)), (a16, .inl (cI, 40, .inl (fun _ => 0))), (a17, .inl (cI, 40, .inl (fun _ => 0)))] H := hP
  have hD : va_D AA [(a1, .inr (7, [.int 0, .int 0, .int 0, .int 0, .int 0, .int 0, .int 0, .int 0, .ref a2, .ref a3, .ref a4, .ref a5, .ref a6, .ref a7, .ref a8, .ref a9])), (a2, .inl (cI, 6, .inl (fun _ => 0))), (a3, .inl (cI, 6, .inl (fun _ => 0))), (a4, .inl (cI, 6, .inl (fun _ => 0))), (a5, .inl (cI, 6, .inl (fun _ => 0))), (a6, .inl (cI, 6, .inl (fun _ => 0))), (a7, .inl (cI, 40, .inl (fun _ => 0))), (a8, .inl (cI, 40, .inl (fun _ => 0))), (a9, .inl (cI, 40, .inl (fun _ => 0))), (a0, .inr (7, [.int 0, .int 0, .int 0, .int 0, .int 0, .int 0, .int 0, .int 0, .ref a10, .ref a11, .ref a12, .ref a13, .ref a14, .ref a15, .ref a16, .ref a17])), (a10, .inl (cI, 6, .inl f1)), (a11, .inl (cI, 6, .inl f2)), (a12, .inl (cI, 6, .inl f3)), (a13, .inl (cI, 6, .inl f4)), (a14, .inl (cI, 6, .inl f5)), (a15, .inl (cI, 40, .inl f6)), (a16, .inl (cI, 40, .inl (fun _ => 0))), (a17, .inl (cI, 40, .inl (fun _ => 0)))] := hD
  refine lv_aload_n hx hb dX7_copyFrom_154 rfl (lv_at hl 1 rfl) ?_
  refine va_get (D := D) (ci := 7) (v := .ref a8) (C := RX7) (T := TX7) (N := 16) hx hb hts (fun w h => uc_in w (inX7 w h)) hown hK hP 0 rfl rfl 14 (by decide) (hts _ (uc_in _ q_f116)) (fun _ h9 => h9) rfl dX7_copyFrom_155 ?_
  refine lv_iconst (v := 0) hx hb dX7_copyFrom_158 (by decide) ?_
  refine lv_aload_n hx hb dX7_copyFrom_159 rfl (lv_at hl 0 rfl) ?_
  refine va_get (D := D) (ci := 7) (v := .ref a16) (C := RX7) (T := TX7) (N := 16) hx hb hts (fun w h => uc_in w (inX7 w h)) hown hK hP 9 rfl rfl 14 (by decide) (hts _ (uc_in _ q_f116)) (fun _ h9 => h9) rfl dX7_copyFrom_160 ?_
  refine lv_iconst (v := 0) hx hb dX7_copyFrom_163 (by decide) ?_
  refine lv_bipush (v := 40) hx hb dX7_copyFrom_164 (by decide) ?_
  refine va_copyi hx hb (by rw [hml]; exact hl.1.symm) hown (hts _ (uc_in _ q_m560)) (hts _ (uc_in _ q_nat)) (hts _ (uc_in _ q_s561)) (hts _ (uc_in _ q_i17)) hK hP hD hS 7 16 1 1 rfl rfl rfl rfl rfl (by decide) (by decide) (by decide) (by decide) (by decide) (fun _ _ => rfl) (Nat.le_of_ble_eq_true rfl) (by decide +kernel) dX7_copyFrom_166 (fun H locs hP hD hS => ?_)
  generalize va_cpy (α := Int32) (fun _ => 0) (fun _ => 0) (Int32.toNatClampNeg 0) (Int32.toNatClampNeg 0) (Int32.toNatClampNeg 40) = f7 at hP hD
  have hP : va_P D vwCl [(a1, .inr (7, [.int 0, .int 0, .int 0, .int 0, .int 0, .int 0, .int 0, .int 0, .ref a2, .ref a3, .ref a4, .ref a5, .ref a6, .ref a7, .ref a8, .ref a9])), (a2, .inl (cI, 6, .inl (fun _ => 0))), (a3, .inl (cI, 6, .inl (fun _ => 0))), (a4, .inl (cI, 6, .inl (fun _ => 0))), (a5, .inl (cI, 6, .inl (fun _ => 0))), (a6, .inl (cI, 6, .inl (fun _ => 0))), (a7, .inl (cI, 40, .inl (fun _ => 0))), (a8, .inl (cI, 40, .inl (fun _ => 0))), (a9, .inl (cI, 40, .inl (fun _ => 0))), (a0, .inr (7, [.int 0, .int 0, .int 0, .int 0, .int 0, .int 0, .int 0, .int 0, .ref a10, .ref a11, .ref a12, .ref a13, .ref a14, .ref a15, .ref a16, .ref a17])), (a10, .inl (cI, 6, .inl f1)), (a11, .inl (cI, 6, .inl f2)), (a12, .inl (cI, 6, .inl f3)), (a13, .inl (cI, 6, .inl f4)), (a14, .inl (cI, 6, .inl f5)), (a15, .inl (cI, 40, .inl f6)), (a16, .inl (cI, 40, .inl f7)), (a17, .inl (cI, 40, .inl (fun _ => 0)))] H := hP
  have hD : va_D AA [(a1, .inr (7, [.int 0, .int 0, .int 0, .int 0, .int 0, .int 0, .int 0, .int 0, .ref a2, .ref a3, .ref a4, .ref a5, .ref a6, .ref a7, .ref a8, .ref a9])), (a2, .inl (cI, 6, .inl (fun _ => 0))), (a3, .inl (cI, 6, .inl (fun _ => 0))), (a4, .inl (cI, 6, .inl (fun _ => 0))), (a5, .inl (cI, 6, .inl (fun _ => 0))), (a6, .inl (cI, 6, .inl (fun _ => 0))), (a7, .inl (cI, 40, .inl (fun _ => 0))), (a8, .inl (cI, 40, .inl (fun _ => 0))), (a9, .inl (cI, 40, .inl (fun _ => 0))), (a0, .inr (7, [.int 0, .int 0, .int 0, .int 0, .int 0, .int 0, .int 0, .int 0, .ref a10, .ref a11, .ref a12, .ref a13, .ref a14, .ref a15, .ref a16, .ref a17])), (a10, .inl (cI, 6, .inl f1)), (a11, .inl (cI, 6, .inl f2)), (a12, .inl (cI, 6, .inl f3)), (a13, .inl (cI, 6, .inl f4)), (a14, .inl (cI, 6, .inl f5)), (a15, .inl (cI, 40, .inl f6)), (a16, .inl (cI, 40, .inl f7)), (a17, .inl (cI, 40, .inl (fun _ => 0)))] := hD
  refine lv_aload_n hx hb dX7_copyFrom_169 rfl (lv_at hl 1 rfl) ?_
  refine va_get (D := D) (ci := 7) (v := .ref a9) (C := RX7) (T := TX7) (N := 16) hx hb hts (fun w h => uc_in w (inX7 w h)) hown hK hP 0 rfl rfl 15 (by decide) (hts _ (uc_in _ q_f117)) (fun _ h9 => h9) rfl dX7_copyFrom_170 ?_
  refine lv_iconst (v := 0) hx hb dX7_copyFrom_173 (by decide) ?_
  refine lv_aload_n hx hb dX7_copyFrom_174 rfl (lv_at hl 0 rfl) ?_
  refine va_get (D := D) (ci := 7) (v := .ref a17) (C := RX7) (T := TX7) (N := 16) hx hb hts (fun w h => uc_in w (inX7 w h)) hown hK hP 9 rfl rfl 15 (by decide) (hts _ (uc_in _ q_f117)) (fun _ h9 => h9) rfl dX7_copyFrom_175 ?_
  refine lv_iconst (v := 0) hx hb dX7_copyFrom_178 (by decide) ?_
  refine lv_bipush (v := 40) hx hb dX7_copyFrom_179 (by decide) ?_
  refine va_copyi hx hb (by rw [hml]; exact hl.1.symm) hown (hts _ (uc_in _ q_m560)) (hts _ (uc_in _ q_nat)) (hts _ (uc_in _ q_s561)) (hts _ (uc_in _ q_i17)) hK hP hD hS 8 17 1 1 rfl rfl rfl rfl rfl (by decide) (by decide) (by decide) (by decide) (by decide) (fun _ _ => rfl) (Nat.le_of_ble_eq_true rfl) (by decide +kernel) dX7_copyFrom_181 (fun H locs hP hD hS => ?_)
  generalize va_cpy (α := Int32) (fun _ => 0) (fun _ => 0) (Int32.toNatClampNeg 0) (Int32.toNatClampNeg 0) (Int32.toNatClampNeg 40) = f8 at hP hD
  have hP : va_P D vwCl [(a1, .inr (7, [.int 0, .int 0, .int 0, .int 0, .int 0, .int 0, .int 0, .int 0, .ref a2, .ref a3, .ref a4, .ref a5, .ref a6, .ref a7, .ref a8, .ref a9])), (a2, .inl (cI, 6, .inl (fun _ => 0))), (a3, .inl (cI, 6, .inl (fun _ => 0))), (a4, .inl (cI, 6, .inl (fun _ => 0))), (a5, .inl (cI, 6, .inl (fun _ => 0))), (a6, .inl (cI, 6, .inl (fun _ => 0))), (a7, .inl (cI, 40, .inl (fun _ => 0))), (a8, .inl (cI, 40, .inl (fun _ => 0))), (a9, .inl (cI, 40, .inl (fun _ => 0))), (a0, .inr (7, [.int 0, .int 0, .int 0, .int 0, .int 0, .int 0, .int 0, .int 0, .ref a10, .ref a11, .ref a12, .ref a13, .ref a14, .ref a15, .ref a16, .ref a17])), (a10, .inl (cI, 6, .inl f1)), (a11, .inl (cI, 6, .inl f2)), (a12, .inl (cI, 6, .inl f3)), (a13, .inl (cI, 6, .inl f4)), (a14, .inl (cI, 6, .inl f5)), (a15, .inl (cI, 40, .inl f6)), (a16, .inl (cI, 40, .inl f7)), (a17, .inl (cI, 40, .inl f8))] H := hP
  have hD : va_D AA [(a1, .inr (7, [.int 0, .int 0, .int 0, .int 0, .int 0, .int 0, .int 0, .int 0, .ref a2, .ref a3, .ref a4, .ref a5, .ref a6, .ref a7, .ref a8, .ref a9])), (a2, .inl (cI, 6, .inl (fun _ => 0))), (a3, .inl (cI, 6, .inl (fun _ => 0))), (a4, .inl (cI, 6, .inl (fun _ => 0))), (a5, .inl (cI, 6, .inl (fun _ => 0))), (a6, .inl (cI, 6, .inl (fun _ => 0))), (a7, .inl (cI, 40, .inl (fun _ => 0))), (a8, .inl (cI, 40, .inl (fun _ => 0))), (a9, .inl (cI, 40, .inl (fun _ => 0))), (a0, .inr (7, [.int 0, .int 0, .int 0, .int 0, .int 0, .int 0, .int 0, .int 0, .ref a10, .ref a11, .ref a12, .ref a13, .ref a14, .ref a15, .ref a16, .ref a17])), (a10, .inl (cI, 6, .inl f1)), (a11, .inl (cI, 6, .inl f2)), (a12, .inl (cI, 6, .inl f3)), (a13, .inl (cI, 6, .inl f4)), (a14, .inl (cI, 6, .inl f5)), (a15, .inl (cI, 40, .inl f6)), (a16, .inl (cI, 40, .inl f7)), (a17, .inl (cI, 40, .inl f8))] := hD
  have hD8 : va_D (va_A [(a1, .inr (7, [.int 0, .int 0, .int 0, .int 0, .int 0, .int 0, .int 0, .int 0, .ref a2, .ref a3, .ref a4, .ref a5, .ref a6, .ref a7, .ref a8, .ref a9])), (a2, .inl (cI, 6, .inl (fun _ => 0))), (a3, .inl (cI, 6, .inl (fun _ => 0))), (a4, .inl (cI, 6, .inl (fun _ => 0))), (a5, .inl (cI, 6, .inl (fun _ => 0))), (a6, .inl (cI, 6, .inl (fun _ => 0))), (a7, .inl (cI, 40, .inl (fun _ => 0))), (a8, .inl (cI, 40, .inl (fun _ => 0))), (a9, .inl (cI, 40, .inl (fun _ => 0))), (a0, .inr (7, [.int 0, .int 0, .int 0, .int 0, .int 0, .int 0, .int 0, .int 0, .ref a10, .ref a11, .ref a12, .ref a13, .ref a14, .ref a15, .ref a16, .ref a17])), (a10, .inl (cI, 6, .inl (fun _ => 0))), (a11, .inl (cI, 6, .inl (fun _ => 0))), (a12, .inl (cI, 6, .inl (fun _ => 0))), (a13, .inl (cI, 6, .inl (fun _ => 0))), (a14, .inl (cI, 6, .inl (fun _ => 0))), (a15, .inl (cI, 40, .inl (fun _ => 0))), (a16, .inl (cI, 40, .inl (fun _ => 0))), (a17, .inl (cI, 40, .inl (fun _ => 0)))] s.heap.size) [(a1, .inr (7, [.int 0, .int 0, .int 0, .int 0, .int 0, .int 0, .int 0, .int 0, .ref a2, .ref a3, .ref a4, .ref a5, .ref a6, .ref a7, .ref a8, .ref a9])), (a2, .inl (cI, 6, .inl (fun _ => 0))), (a3, .inl (cI, 6, .inl (fun _ => 0))), (a4, .inl (cI, 6, .inl (fun _ => 0))), (a5, .inl (cI, 6, .inl (fun _ => 0))), (a6, .inl (cI, 6, .inl (fun _ => 0))), (a7, .inl (cI, 40, .inl (fun _ => 0))), (a8, .inl (cI, 40, .inl (fun _ => 0))), (a9, .inl (cI, 40, .inl (fun _ => 0))), (a0, .inr (7, [.int 0, .int 0, .int 0, .int 0, .int 0, .int 0, .int 0, .int 0, .ref a10, .ref a11, .ref a12, .ref a13, .ref a14, .ref a15, .ref a16, .ref a17])), (a10, .inl (cI, 6, .inl f1)), (a11, .inl (cI, 6, .inl f2)), (a12, .inl (cI, 6, .inl f3)), (a13, .inl (cI, 6, .inl f4)), (a14, .inl (cI, 6, .inl f5)), (a15, .inl (cI, 40, .inl f6)), (a16, .inl (cI, 40, .inl f7)), (a17, .inl (cI, 40, .inl f8))] := by rw [← hAe]; exact hD
  have hS8 : va_S (va_A [(a1, .inr (7, [.int 0, .int 0, .int 0, .int 0, .int 0, .int 0, .int 0, .int 0, .ref a2, .ref a3, .ref a4, .ref a5, .ref a6, .ref a7, .ref a8, .ref a9])), (a2, .inl (cI, 6, .inl (fun _ => 0))), (a3, .inl (cI, 6, .inl (fun _ => 0))), (a4, .inl (cI, 6, .inl (fun _ => 0))), (a5, .inl (cI, 6, .inl (fun _ => 0))), (a6, .inl (cI, 6, .inl (fun _ => 0))), (a7, .inl (cI, 40, .inl (fun _ => 0))), (a8, .inl (cI, 40, .inl (fun _ => 0))), (a9, .inl (cI, 40, .inl (fun _ => 0))), (a0, .inr (7, [.int 0, .int 0, .int 0, .int 0, .int 0, .int 0, .int 0, .int 0, .ref a10, .ref a11, .ref a12, .ref a13, .ref a14, .ref a15, .ref a16, .ref a17])), (a10, .inl (cI, 6, .inl (fun _ => 0))), (a11, .inl (cI, 6, .inl (fun _ => 0))), (a12, .inl (cI, 6, .inl (fun _ => 0))), (a13, .inl (cI, 6, .inl (fun _ => 0))), (a14, .inl (cI, 6, .inl (fun _ => 0))), (a15, .inl (cI, 40, .inl (fun _ => 0))), (a16, .inl (cI, 40, .inl (fun _ => 0))), (a17, .inl (cI, 40, .inl (fun _ => 0)))] s.heap.size) s.heap H locs := by rw [← hAe]; exact hS
  have hP9 := hP.sub (ws' := [(a1, .inr (7, [.int 0, .int 0, .int 0, .int 0, .int 0, .int 0, .int 0, .int 0, .ref a2, .ref a3, .ref a4, .ref a5, .ref a6, .ref a7, .ref a8, .ref a9])), (a2, .inl (cI, 6, .inl (fun _ => 0))), (a3, .inl (cI, 6, .inl (fun _ => 0))), (a4, .inl (cI, 6, .inl (fun _ => 0))), (a5, .inl (cI, 6, .inl (fun _ => 0))), (a6, .inl (cI, 6, .inl (fun _ => 0))), (a7, .inl (cI, 40, .inl (fun _ => 0))), (a8, .inl (cI, 40, .inl (fun _ => 0))), (a9, .inl (cI, 40, .inl (fun _ => 0))), (a0, .inr (7, [.int 0, .int 0, .int 0, .int 0, .int 0, .int 0, .int 0, .int 0, .ref a10, .ref a11, .ref a12, .ref a13, .ref a14, .ref a15, .ref a16, .ref a17])), (a10, .inl (cI, 6, .inl f1)), (a11, .inl (cI, 6, .inl f2)), (a12, .inl (cI, 6, .inl f3)), (a13, .inl (cI, 6, .inl f4)), (a14, .inl (cI, 6, .inl f5)), (a15, .inl (cI, 40, .inl f6)), (a16, .inl (cI, 40, .inl f7)), (a17, .inl (cI, 40, .inl f8))]) [0, 1, 2, 3, 4, 5, 6, 7, 8, 9, 10, 11, 12, 13, 14, 15, 16, 17] rfl
  have hD9 := hD8.sub (ws' := [(a1, .inr (7, [.int 0, .int 0, .int 0, .int 0, .int 0, .int 0, .int 0, .int 0, .ref a2, .ref a3, .ref a4, .ref a5, .ref a6, .ref a7, .ref a8, .ref a9])), (a2, .inl (cI, 6, .inl (fun _ => 0))), (a3, .inl (cI, 6, .inl (fun _ => 0))), (a4, .inl (cI, 6, .inl (fun _ => 0))), (a5, .inl (cI, 6, .inl (fun _ => 0))), (a6, .inl (cI, 6, .inl (fun _ => 0))), (a7, .inl (cI, 40, .inl (fun _ => 0))), (a8, .inl (cI, 40, .inl (fun _ => 0))), (a9, .inl (cI, 40, .inl (fun _ => 0))), (a0, .inr (7, [.int 0, .int 0, .int 0, .int 0, .int 0, .int 0, .int 0, .int 0, .ref a10, .ref a11, .ref a12, .ref a13, .ref a14, .ref a15, .ref a16, .ref a17])), (a10, .inl (cI, 6, .inl f1)), (a11, .inl (cI, 6, .inl f2)), (a12, .inl (cI, 6, .inl f3)), (a13, .inl (cI, 6, .inl f4)), (a14, .inl (cI, 6, .inl f5)), (a15, .inl (cI, 40, .inl f6)), (a16, .inl (cI, 40, .inl f7)), (a17, .inl (cI, 40, .inl f8))]) [0, 1, 2, 3, 4, 5, 6, 7, 8, 9, 10, 11, 12, 13, 14, 15, 16, 17] rfl rfl
  exact W.vret hx hb hr (fun t ht hW => ⟨⟨(f1, f2, f3, f4, f5, f6, f7, f8), rfl, trivial, by rw [ht]; exact hP9, va_K.moved hW.alike hK, hD9⟩, hS8.F ht⟩) hS8.2.2 dX7_copyFrom_184
set_option maxHeartbeats 4000000 in
set_option maxRecDepth 100000 in
theorem kX9_image_0 (l : Launch) (D : va_G) (cB cI cJ cZ cT cR : ClassId) (a0 a1 a2 a3 a4 a5 a6 a7 a8 a9 a10 a11 a12 a13 a14 a15 a16 a17 a18 a19 a20 a21 a22 a23 a24 a25 a26 a27 a28 a29 a30 : Nat) (sz : Nat) : Met l yX9_image (uc yX9_image cX9_image 2 (some .int)) (rmL 2 0 0) (va_Pc [.ref a0, .int 0] (MPre D [(cB, .byte), (cI, .int), (cJ, .long), (cZ, .boolean), (cT, .object RX7), (cR, .object RX3)] [(a0, .inr (9, [.ref a20, .ref a1, .ref a21, .ref a10, .int 0, .ref a22, .ref a23, .ref a24, .ref a25, .ref a26, .ref a27, .ref a28])), (a1, .inr (7, [.int 0, .int 0, .int 0, .int 0, .int 0, .int 0, .int 0, .int 0, .ref a2, .ref a3, .ref a4, .ref a5, .ref a6, .ref a7, .ref a8, .ref a9])), (a2, .inl (cI, 6, .inl (fun _ => 0))), (a3, .inl (cI, 6, .inl (fun _ => 0))), (a4, .inl (cI, 6, .inl (fun _ => 0))), (a5, .inl (cI, 6, .inl (fun _ => 0))), (a6, .inl (cI, 6, .inl (fun _ => 0))), (a7, .inl (cI, 40, .inl (fun _ => 0))), (a8, .inl (cI, 40, .inl (fun _ => 0))), (a9, .inl (cI, 40, .inl (fun _ => 0))), (a10, .inl (cT, 3, .inr (.inr (.inr (.inr (va_up (va_up (va_up (fun _ => none) 0 (some a11)) 1 (some a29)) 2 (some a30))))))), (a11, .inr (7, [.int 0, .int 0, .int 0, .int 0, .int 0, .int 0, .int 0, .int 0, .ref a12, .ref a13, .ref a14, .ref a15, .ref a16, .ref a17, .ref a18, .ref a19])), (a12, .inl (cI, 6, .inl (fun _ => 0))), (a13, .inl (cI, 6, .inl (fun _ => 0))), (a14, .inl (cI, 6, .inl (fun _ => 0))), (a15, .inl (cI, 6, .inl (fun _ => 0))), (a16, .inl (cI, 6, .inl (fun _ => 0))), (a17, .inl (cI, 40, .inl (fun _ => 0))), (a18, .inl (cI, 40, .inl (fun _ => 0))), (a19, .inl (cI, 40, .inl (fun _ => 0)))] sz)) (va_Qi (fun (r : Int32) (_ : (Nat → Int32) × (Nat → Int32) × (Nat → Int32) × (Nat → Int32) × (Nat → Int32) × (Nat → Int32) × (Nat → Int32) × (Nat → Int32)) => r = 0) (MB D [(cB, .byte), (cI, .int), (cJ, .long), (cZ, .boolean), (cT, .object RX7), (cR, .object RX3)] [(a0, .inr (9, [.ref a20, .ref a1, .ref a21, .ref a10, .int 0, .ref a22, .ref a23, .ref a24, .ref a25, .ref a26, .ref a27, .ref a28])), (a1, .inr (7, [.int 0, .int 0, .int 0, .int 0, .int 0, .int 0, .int 0, .int 0, .ref a2, .ref a3, .ref a4, .ref a5, .ref a6, .ref a7, .ref a8, .ref a9])), (a2, .inl (cI, 6, .inl (fun _ => 0))), (a3, .inl (cI, 6, .inl (fun _ => 0))), (a4, .inl (cI, 6, .inl (fun _ => 0))), (a5, .inl (cI, 6, .inl (fun _ => 0))), (a6, .inl (cI, 6, .inl (fun _ => 0))), (a7, .inl (cI, 40, .inl (fun _ => 0))), (a8, .inl (cI, 40, .inl (fun _ => 0))), (a9, .inl (cI, 40, .inl (fun _ => 0))), (a10, .inl (cT, 3, .inr (.inr (.inr (.inr (va_up (va_up (va_up (fun _ => none) 0 (some a11)) 1 (some a29)) 2 (some a30))))))), (a11, .inr (7, [.int 0, .int 0, .int 0, .int 0, .int 0, .int 0, .int 0, .int 0, .ref a12, .ref a13, .ref a14, .ref a15, .ref a16, .ref a17, .ref a18, .ref a19])), (a12, .inl (cI, 6, .inl (fun _ => 0))), (a13, .inl (cI, 6, .inl (fun _ => 0))), (a14, .inl (cI, 6, .inl (fun _ => 0))), (a15, .inl (cI, 6, .inl (fun _ => 0))), (a16, .inl (cI, 6, .inl (fun _ => 0))), (a17, .inl (cI, 40, .inl (fun _ => 0))), (a18, .inl (cI, 40, .inl (fun _ => 0))), (a19, .inl (cI, 40, .inl (fun _ => 0)))] sz (fun (u : (Nat → Int32) × (Nat → Int32) × (Nat → Int32) × (Nat → Int32) × (Nat → Int32) × (Nat → Int32) × (Nat → Int32) × (Nat → Int32)) => [(a0, .inr (9, [.ref a20, .ref a1, .ref a21, .ref a10, .int 1, .ref a22, .ref a23, .ref a24, .ref a25, .ref a26, .ref a27, .ref a28])), (a10, .inl (cT, 3, .inr (.inr (.inr (.inr (va_up (va_up (va_up (fun _ => none) 0 (some a11)) 1 (some a29)) 2 (some a30))))))), (a1, .inr (7, [.int 0, .int 0, .int 0, .int 0, .int 0, .int 0, .int 0, .int 0, .ref a2, .ref a3, .ref a4, .ref a5, .ref a6, .ref a7, .ref a8, .ref a9])), (a2, .inl (cI, 6, .inl (fun _ => 0))), (a3, .inl (cI, 6, .inl (fun _ => 0))), (a4, .inl (cI, 6, .inl (fun _ => 0))), (a5, .inl (cI, 6, .inl (fun _ => 0))), (a6, .inl (cI, 6, .inl (fun _ => 0))), (a7, .inl (cI, 40, .inl (fun _ => 0))), (a8, .inl (cI, 40, .inl (fun _ => 0))), (a9, .inl (cI, 40, .inl (fun _ => 0))), (a11, .inr (7, [.int 0, .int 0, .int 0, .int 0, .int 0, .int 0, .int 0, .int 0, .ref a12, .ref a13, .ref a14, .ref a15, .ref a16, .ref a17, .ref a18, .ref a19])), (a12, .inl (cI, 6, .inl (u.1))), (a13, .inl (cI, 6, .inl (u.2.1))), (a14, .inl (cI, 6, .inl (u.2.2.1))), (a15, .inl (cI, 6, .inl (u.2.2.2.1))), (a16, .inl (cI, 6, .inl (u.2.2.2.2.1))), (a17, .inl (cI, 40, .inl (u.2.2.2.2.2.1))), (a18, .inl (cI, 40, .inl (u.2.2.2.2.2.2.1))), (a19, .inl (cI, 40, .inl (u.2.2.2.2.2.2.2)))])) (va_A [(a0, .inr (9, [.ref a20, .ref a1, .ref a21, .ref a10, .int 0, .ref a22, .ref a23, .ref a24, .ref a25, .ref a26, .ref a27, .ref a28])), (a1, .inr (7, [.int 0, .int 0, .int 0, .int 0, .int 0, .int 0, .int 0, .int 0, .ref a2, .ref a3, .ref a4, .ref a5, .ref a6, .ref a7, .ref a8, .ref a9])), (a2, .inl (cI, 6, .inl (fun _ => 0))), (a3, .inl (cI, 6, .inl (fun _ => 0))), (a4, .inl (cI, 6, .inl (fun _ => 0))), (a5, .inl (cI, 6, .inl (fun _ => 0))), (a6, .inl (cI, 6, .inl (fun _ => 0))), (a7, .inl (cI, 40, .inl (fun _ => 0))), (a8, .inl (cI, 40, .inl (fun _ => 0))), (a9, .inl (cI, 40, .inl (fun _ => 0))), (a10, .inl (cT, 3, .inr (.inr (.inr (.inr (va_up (va_up (va_up (fun _ => none) 0 (some a11)) 1 (some a29)) 2 (some a30))))))), (a11, .inr (7, [.int 0, .int 0, .int 0, .int 0, .int 0, .int 0, .int 0, .int 0, .ref a12, .ref a13, .ref a14, .ref a15, .ref a16, .ref a17, .ref a18, .ref a19])), (a12, .inl (cI, 6, .inl (fun _ => 0))), (a13, .inl (cI, 6, .inl (fun _ => 0))), (a14, .inl (cI, 6, .inl (fun _ => 0))), (a15, .inl (cI, 6, .inl (fun _ => 0))), (a16, .inl (cI, 6, .inl (fun _ => 0))), (a17, .inl (cI, 40, .inl (fun _ => 0))), (a18, .inl (cI, 40, .inl (fun _ => 0))), (a19, .inl (cI, 40, .inl (fun _ => 0)))] sz)) 0 0 (va_A [(a0, .inr (9, [.ref a20, .ref a1, .ref a21, .ref a10, .int 0, .ref a22, .ref a23, .ref a24, .ref a25, .ref a26, .ref a27, .ref a28])), (a1, .inr (7, [.int 0, .int 0, .int 0, .int 0, .int 0, .int 0, .int 0, .int 0, .ref a2, .ref a3, .ref a4, .ref a5, .ref a6, .ref a7, .ref a8, .ref a9])), (a2, .inl (cI, 6, .inl (fun _ => 0))), (a3, .inl (cI, 6, .inl (fun _ => 0))), (a4, .inl (cI, 6, .inl (fun _ => 0))), (a5, .inl (cI, 6, .inl (fun _ => 0))), (a6, .inl (cI, 6, .inl (fun _ => 0))), (a7, .inl (cI, 40, .inl (fun _ => 0))), (a8, .inl (cI, 40, .inl (fun _ => 0))), (a9, .inl (cI, 40, .inl (fun _ => 0))), (a10, .inl (cT, 3, .inr (.inr (.inr (.inr (va_up (va_up (va_up (fun _ => none) 0 (some a11)) 1 (some a29)) 2 (some a30))))))), (a11, .inr (7, [.int 0, .int 0, .int 0, .int 0, .int 0, .int 0, .int 0, .int 0, .ref a12, .ref a13, .ref a14, .ref a15, .ref a16, .ref a17, .ref a18, .ref a19])), (a12, .inl (cI, 6, .inl (fun _ => 0))), (a13, .inl (cI, 6, .inl (fun _ => 0))), (a14, .inl (cI, 6, .inl (fun _ => 0))), (a15, .inl (cI, 6, .inl (fun _ => 0))), (a16, .inl (cI, 6, .inl (fun _ => 0))), (a17, .inl (cI, 40, .inl (fun _ => 0))), (a18, .inl (cI, 40, .inl (fun _ => 0))), (a19, .inl (cI, 40, .inl (fun _ => 0)))] sz) := by
  refine pm (by decide) (Nat.le_of_ble_eq_true rfl) ?_
  intro p e s m below meth c ls hx hb hr hml hown hlk hnm hts hv hl
  have hown : s.vm.findClass RX9 = some m.cls := hown
  have hl : lv_has ls 2 [(0, .ref a0), (1, .int 0)] := hl
  obtain ⟨hsz, hP, hK, hD0, hE⟩ := hv
  subst hsz
  have hD := hD0.self (sz := s.heap.size)
  obtain ⟨AA, hAe⟩ : ∃ AA, AA = va_A [(a0, .inr (9, [.ref a20, .ref a1, .ref a21, .ref a10, .int 0, .ref a22, .ref a23, .ref a24, .ref a25, .ref a26, .ref a27, .ref a28])), (a1, .inr (7, [.int 0, .int 0, .int 0, .int 0, .int 0, .int 0, .int 0, .int 0, .ref a2, .ref a3, .ref a4, .ref a5, .ref a6, .ref a7, .ref a8, .ref a9])), (a2, .inl (cI, 6, .inl (fun _ => 0))), (a3, .inl (cI, 6, .inl (fun _ => 0))), (a4, .inl (cI, 6, .inl (fun _ => 0))), (a5, .inl (cI, 6, .inl (fun _ => 0))), (a6, .inl (cI, 6, .inl (fun _ => 0))), (a7, .inl (cI, 40, .inl (fun _ => 0))), (a8, .inl (cI, 40, .inl (fun _ => 0))), (a9, .inl (cI, 40, .inl (fun _ => 0))), (a10, .inl (cT, 3, .inr (.inr (.inr (.inr (va_up (va_up (va_up (fun _ => none) 0 (some a11)) 1 (some a29)) 2 (some a30))))))), (a11, .inr (7, [.int 0, .int 0, .int 0, .int 0, .int 0, .int 0, .int 0, .int 0, .ref a12, .ref a13, .ref a14, .ref a15, .ref a16, .ref a17, .ref a18, .ref a19])), (a12, .inl (cI, 6, .inl (fun _ => 0))), (a13, .inl (cI, 6, .inl (fun _ => 0))), (a14, .inl (cI, 6, .inl (fun _ => 0))), (a15, .inl (cI, 6, .inl (fun _ => 0))), (a16, .inl (cI, 6, .inl (fun _ => 0))), (a17, .inl (cI, 40, .inl (fun _ => 0))), (a18, .inl (cI, 40, .inl (fun _ => 0))), (a19, .inl (cI, 40, .inl (fun _ => 0)))] s.heap.size := ⟨_, rfl⟩
  rw [← hAe] at hD
  have hA : ∀ q : Nat, s.heap.size ≤ q → AA q := fun q h => by rw [hAe]; exact Or.inr h
  have hS : va_S AA s.heap s.heap [] := va_S.rf
  obtain ⟨-, hAOT, hAOR, hAOI⟩ := id hE
  refine lv_iload_n hx hb dX9_image_0 rfl (lv_at hl 1 rfl) ?_
  refine lv_iconst (v := 0) hx hb dX9_image_1 (by decide) ?_
  refine lv_iconst (v := 2) hx hb dX9_image_2 (by decide) ?_
  refine csR (n := 3) (As := [.int 0, .int 0, .int 2]) (rest := []) ⟨hx, hb, hml, hown, hts⟩ uc_in (k_isWithin l D [(cB, .byte), (cI, .int), (cJ, .long), (cZ, .boolean), (cT, .object RX7), (cR, .object RX3)] 0 0 2 1 (if_pos (by decide)).symm) q_m651 q_s652 q_i1 q_c653 (by decide +kernel) ⟨(Nat.le_of_ble_eq_true rfl), (Nat.le_of_ble_eq_true rfl)⟩ ⟨(Nat.le_of_ble_eq_true rfl), (Nat.le_of_ble_eq_true rfl)⟩ hK (hP.sub (ws' := []) [] rfl) rfl hl.1 rfl (Nat.le_of_ble_eq_true rfl) dX9_image_3 ?_
  refine lv_if_ne (tgt := 12) hx hb dX9_image_6 (by decide) (fun _ => ?_) (fun c9 => absurd c9 (by decide))
  refine lv_aload_n hx hb dX9_image_12 rfl (lv_at hl 0 rfl) ?_
  refine va_get (D := D) (ci := 9) (v := .ref a10) (C := RX9) (T := TX9) (N := 12) hx hb hts (fun w h => uc_in w (inX9 w h)) hown hK hP 0 rfl rfl 3 (by decide) (hts _ (uc_in _ q_f386)) (fun _ h9 => h9) rfl dX9_image_13 ?_
  refine lv_iload_n hx hb dX9_image_16 rfl (lv_at hl 1 rfl) ?_
  refine va_aldq hx hb hK hP 10 4 rfl rfl (vp_in_iff.mpr ⟨by decide, by decide⟩) dX9_image_17 ?_
  refine pv_v (v := .ref a11) rfl ?_
  refine lv_aload_n hx hb dX9_image_18 rfl (lv_at hl 0 rfl) ?_
  refine va_get (D := D) (ci := 9) (v := .ref a1) (C := RX9) (T := TX9) (N := 12) hx hb hts (fun w h => uc_in w (inX9 w h)) hown hK hP 0 rfl rfl 1 (by decide) (hts _ (uc_in _ q_f384)) (fun _ h9 => h9) rfl dX9_image_19 ?_
  refine cvV (n := 1) (As := [.ref a1]) (rest := []) (wr := [(a0, .inr (9, [.ref a20, .ref a1, .ref a21, .ref a10, .int 0, .ref a22, .ref a23, .ref a24, .ref a25, .ref a26, .ref a27, .ref a28])), (a10, .inl (cT, 3, .inr (.inr (.inr (.inr (va_up (va_up (va_up (fun _ => none) 0 (some a11)) 1 (some a29)) 2 (some a30)))))))]) ⟨hx, hb, hml, hown, hts⟩ uc_in (kX7_copyFrom_1 l D cB cI cJ cZ cT cR a11 a1 a2 a3 a4 a5 a6 a7 a8 a9 a12 a13 a14 a15 a16 a17 a18 a19 _) q_m556 q_n557 q_e558 q_i3 q_c559 (by decide +kernel) ⟨(Nat.le_of_ble_eq_true rfl), (Nat.le_of_ble_eq_true rfl)⟩ ⟨(Nat.le_of_ble_eq_true rfl), (Nat.le_of_ble_eq_true rfl)⟩ hE hK hP hD hS hA [1, 2, 3, 4, 5, 6, 7, 8, 9, 11, 12, 13, 14, 15, 16, 17, 18, 19] [0, 10] rfl rfl rfl rfl (by decide) 7 9 rfl rfl rfl hl.1 rfl (Nat.le_of_ble_eq_true rfl) dX9_image_22 (fun u H locs hpo hP hD hS => ?_)
  obtain ⟨f1, f2, f3, f4, f5, f6, f7, f8⟩ := u
  have hP : va_P D vwCl [(a0, .inr (9, [.ref a20, .ref a1, .ref a21, .ref a10, .int 0, .ref a22, .ref a23, .ref a24, .ref a25, .ref a26, .ref a27, .ref a28])), (a10, .inl (cT, 3, .inr (.inr (.inr (.inr (va_up (va_up (va_up (fun _ => none) 0 (some a11)) 1 (some a29)) 2 (some a30))))))), (a1, .inr (7, [.int 0, .int 0, .int 0, .int 0, .int 0, .int 0, .int 0, .int 0, .ref a2, .ref a3, .ref a4, .ref a5, .ref a6, .ref a7, .ref a8, .ref a9])), (a2, .inl (cI, 6, .inl (fun _ => 0))), (a3, .inl (cI, 6, .inl (fun _ => 0))), (a4, .inl (cI, 6, .inl (fun _ => 0))), (a5, .inl (cI, 6, .inl (fun _ => 0))), (a6, .inl (cI, 6, .inl (fun _ => 0))), (a7, .inl (cI, 40, .inl (fun _ => 0))), (a8, .inl (cI, 40, .inl (fun _ => 0))), (a9, .inl (cI, 40, .inl (fun _ => 0))), (a11, .inr (7, [.int 0, .int 0, .int 0, .int 0, .int 0, .int 0, .int 0, .int 0, .ref a12, .ref a13, .ref a14, .ref a15, .ref a16, .ref a17, .ref a18, .ref a19])), (a12, .inl (cI, 6, .inl f1)), (a13, .inl (cI, 6, .inl f2)), (a14, .inl (cI, 6, .inl f3)), (a15, .inl (cI, 6, .inl f4)), (a16, .inl (cI, 6, .inl f5)), (a17, .inl (cI, 40, .inl f6)), (a18, .inl (cI, 40, .inl f7)), (a19, .inl (cI, 40, .inl f8))] H := hP
  have hD : va_D AA [(a0, .inr (9, [.ref a20, .ref a1, .ref a21, .ref a10, .int 0, .ref a22, .ref a23, .ref a24, .ref a25, .ref a26, .ref a27, .ref a28])), (a10, .inl (cT, 3, .inr (.inr (.inr (.inr (va_up (va_up (va_up (fun _ => none) 0 (some a11)) 1 (some a29)) 2 (some a30))))))), (a1, .inr (7, [.int 0, .int 0, .int 0, .int 0, .int 0, .int 0, .int 0, .int 0, .ref a2, .ref a3, .ref a4, .ref a5, .ref a6, .ref a7, .ref a8, .ref a9])), (a2, .inl (cI, 6, .inl (fun _ => 0))), (a3, .inl (cI, 6, .inl (fun _ => 0))), (a4, .inl (cI, 6, .inl (fun _ => 0))), (a5, .inl (cI, 6, .inl (fun _ => 0))), (a6, .inl (cI, 6, .inl (fun _ => 0))), (a7, .inl (cI, 40, .inl (fun _ => 0))), (a8, .inl (cI, 40, .inl (fun _ => 0))), (a9, .inl (cI, 40, .inl (fun _ => 0))), (a11, .inr (7, [.int 0, .int 0, .int 0, .int 0, .int 0, .int 0, .int 0, .int 0, .ref a12, .ref a13, .ref a14, .ref a15, .ref a16, .ref a17, .ref a18, .ref a19])), (a12, .inl (cI, 6, .inl f1)), (a13, .inl (cI, 6, .inl f2)), (a14, .inl (cI, 6, .inl f3)), (a15, .inl (cI, 6, .inl f4)), (a16, .inl (cI, 6, .inl f5)), (a17, .inl (cI, 40, .inl f6)), (a18, .inl (cI, 40, .inl f7)), (a19, .inl (cI, 40, .inl f8))] := hD
  refine W.cs (cells' := 0) (slots' := 0) rfl rfl ?_
  refine lv_aload_n hx hb dX9_image_25 rfl (lv_at hl 0 rfl) ?_
  refine lv_dup hx hb dX9_image_26 rfl ?_
  refine va_get (D := D) (ci := 9) (v := .int 0) (C := RX9) (T := TX9) (N := 12) hx hb hts (fun w h => uc_in w (inX9 w h)) hown hK hP 0 rfl rfl 4 (by decide) (hts _ (uc_in _ q_f387)) (fun _ h9 => h9) rfl dX9_image_27 ?_
  refine lv_iconst (v := 1) hx hb dX9_image_30 (by decide) ?_
  refine lv_iload_n hx hb dX9_image_31 rfl (lv_at hl 1 rfl) ?_
  refine lv_ishl hx hb dX9_image_32 ?_
  refine pv_i (v := 1) (by decide) ?_
  refine lv_ior hx hb dX9_image_33 ?_
  refine pv_i (v := 1) (by decide) ?_
  refine va_put (D := D) (ci := 9) (v := .int 1) (ty := .int) (C := RX9) (T := TX9) (N := 12) hx hb hts (fun w h => uc_in w (inX9 w h)) tyX9 tyX9_ok nmX9 hown hK hP hD hS 0 rfl rfl 4 (by decide) (hts _ (uc_in _ q_f387)) (fun _ h9 => h9) rfl (by decide +kernel) rfl rfl (Nat.le_of_ble_eq_true rfl) dX9_image_34 (fun H locs hP hD hS => ?_)
  have hP : va_P D vwCl [(a0, .inr (9, [.ref a20, .ref a1, .ref a21, .ref a10, .int 1, .ref a22, .ref a23, .ref a24, .ref a25, .ref a26, .ref a27, .ref a28])), (a10, .inl (cT, 3, .inr (.inr (.inr (.inr (va_up (va_up (va_up (fun _ => none) 0 (some a11)) 1 (some a29)) 2 (some a30))))))), (a1, .inr (7, [.int 0, .int 0, .int 0, .int 0, .int 0, .int 0, .int 0, .int 0, .ref a2, .ref a3, .ref a4, .ref a5, .ref a6, .ref a7, .ref a8, .ref a9])), (a2, .inl (cI, 6, .inl (fun _ => 0))), (a3, .inl (cI, 6, .inl (fun _ => 0))), (a4, .inl (cI, 6, .inl (fun _ => 0))), (a5, .inl (cI, 6, .inl (fun _ => 0))), (a6, .inl (cI, 6, .inl (fun _ => 0))), (a7, .inl (cI, 40, .inl (fun _ => 0))), (a8, .inl (cI, 40, .inl (fun _ => 0))), (a9, .inl (cI, 40, .inl (fun _ => 0))), (a11, .inr (7, [.int 0, .int 0, .int 0, .int 0, .int 0, .int 0, .int 0, .int 0, .ref a12, .ref a13, .ref a14, .ref a15, .ref a16, .ref a17, .ref a18, .ref a19])), (a12, .inl (cI, 6, .inl f1)), (a13, .inl (cI, 6, .inl f2)), (a14, .inl (cI, 6, .inl f3)), (a15, .inl (cI, 6, .inl f4)), (a16, .inl (cI, 6, .inl f5)), (a17, .inl (cI, 40, .inl f6)), (a18, .inl (cI, 40, .inl f7)), (a19, .inl (cI, 40, .inl f8))] H := hP
  have hD : va_D AA [(a0, .inr (9, [.ref a20, .ref a1, .ref a21, .ref a10, .int 1, .ref a22, .ref a23, .ref a24, .ref a25, .ref a26, .ref a27, .ref a28])), (a10, .inl (cT, 3, .inr (.inr (.inr (.inr (va_up (va_up (va_up (fun _ => none) 0 (some a11)) 1 (some a29)) 2 (some a30))))))), (a1, .inr (7, [.int 0, .int 0, .int 0, .int 0, .int 0, .int 0, .int 0, .int 0, .ref a2, .ref a3, .ref a4, .ref a5, .ref a6, .ref a7, .ref a8, .ref a9])), (a2, .inl (cI, 6, .inl (fun _ => 0))), (a3, .inl (cI, 6, .inl (fun _ => 0))), (a4, .inl (cI, 6, .inl (fun _ => 0))), (a5, .inl (cI, 6, .inl (fun _ => 0))), (a6, .inl (cI, 6, .inl (fun _ => 0))), (a7, .inl (cI, 40, .inl (fun _ => 0))), (a8, .inl (cI, 40, .inl (fun _ => 0))), (a9, .inl (cI, 40, .inl (fun _ => 0))), (a11, .inr (7, [.int 0, .int 0, .int 0, .int 0, .int 0, .int 0, .int 0, .int 0, .ref a12, .ref a13, .ref a14, .ref a15, .ref a16, .ref a17, .ref a18, .ref a19])), (a12, .inl (cI, 6, .inl f1)), (a13, .inl (cI, 6, .inl f2)), (a14, .inl (cI, 6, .inl f3)), (a15, .inl (cI, 6, .inl f4)), (a16, .inl (cI, 6, .inl f5)), (a17, .inl (cI, 40, .inl f6)), (a18, .inl (cI, 40, .inl f7)), (a19, .inl (cI, 40, .inl f8))] := hD
  refine lv_iconst (v := 0) hx hb dX9_image_37 (by decide) ?_
  have hD8 : va_D (va_A [(a0, .inr (9, [.ref a20, .ref a1, .ref a21, .ref a10, .int 0, .ref a22, .ref a23, .ref a24, .ref a25, .ref a26, .ref a27, .ref a28])), (a1, .inr (7, [.int 0, .int 0, .int 0, .int 0, .int 0, .int 0, .int 0, .int 0, .ref a2, .ref a3, .ref a4, .ref a5, .ref a6, .ref a7, .ref a8, .ref a9])), (a2, .inl (cI, 6, .inl (fun _ => 0))), (a3, .inl (cI, 6, .inl (fun _ => 0))), (a4, .inl (cI, 6, .inl (fun _ => 0))), (a5, .inl (cI, 6, .inl (fun _ => 0))), (a6, .inl (cI, 6, .inl (fun _ => 0))), (a7, .inl (cI, 40, .inl (fun _ => 0))), (a8, .inl (cI, 40, .inl (fun _ => 0))), (a9, .inl (cI, 40, .inl (fun _ => 0))), (a10, .inl (cT, 3, .inr (.inr (.inr (.inr (va_up (va_up (va_up (fun _ => none) 0 (some a11)) 1 (some a29)) 2 (some a30))))))), (a11, .inr (7, [.int 0, .int 0, .int 0, .int 0, .int 0, .int 0, .int 0, .int 0, .ref a12, .ref a13, .ref a14, .ref a15, .ref a16, .ref a17, .ref a18, .ref a19])), (a12, .inl (cI, 6, .inl (fun _ => 0))), (a13, .inl (cI, 6, .inl (fun _ => 0))), (a14, .inl (cI, 6, .inl (fun _ => 0))), (a15, .inl (cI, 6, .inl (fun _ => 0))), (a16, .inl (cI, 6, .inl (fun _ => 0))), (a17, .inl (cI, 40, .inl (fun _ => 0))), (a18, .inl (cI, 40, .inl (fun _ => 0))), (a19, .inl (cI, 40, .inl (fun _ => 0)))] s.heap.size) [(a0, .inr (9, [.ref a20, .ref a1, .ref a21, .ref a10, .int 1, .ref a22, .ref a23, .ref a24, .ref a25, .ref a26, .ref a27, .ref a28])), (a10, .inl (cT, 3, .inr (.inr (.inr (.inr (va_up (va_up (va_up (fun _ => none) 0 (some a11)) 1 (some a29)) 2 (some a30))))))), (a1, .inr (7, [.int 0, .int 0, .int 0, .int 0, .int 0, .int 0, .int 0, .int 0, .ref a2, .ref a3, .ref a4, .ref a5, .ref a6, .ref a7, .ref a8, .ref a9])), (a2, .inl (cI, 6, .inl (fun _ => 0))), (a3, .inl (cI, 6, .inl (fun _ => 0))), (a4, .inl (cI, 6, .inl (fun _ => 0))), (a5, .inl (cI, 6, .inl (fun _ => 0))), (a6, .inl (cI, 6, .inl (fun _ => 0))), (a7, .inl (cI, 40, .inl (fun _ => 0))), (a8, .inl (cI, 40, .inl (fun _ => 0))), (a9, .inl (cI, 40, .inl (fun _ => 0))), (a11, .inr (7, [.int 0, .int 0, .int 0, .int 0, .int 0, .int 0, .int 0, .int 0, .ref a12, .ref a13, .ref a14, .ref a15, .ref a16, .ref a17, .ref a18, .ref a19])), (a12, .inl (cI, 6, .inl f1)), (a13, .inl (cI, 6, .inl f2)), (a14, .inl (cI, 6, .inl f3)), (a15, .inl (cI, 6, .inl f4)), (a16, .inl (cI, 6, .inl f5)), (a17, .inl (cI, 40, .inl f6)), (a18, .inl (cI, 40, .inl f7)), (a19, .inl (cI, 40, .inl f8))] := by rw [← hAe]; exact hD
  have hS8 : va_S (va_A [(a0, .inr (9, [.ref a20, .ref a1, .ref a21, .ref a10, .int 0, .ref a22, .ref a23, .ref a24, .ref a25, .ref a26, .ref a27, .ref a28])), (a1, .inr (7, [.int 0, .int 0, .int 0, .int 0, .int 0, .int 0, .int 0, .int 0, .ref a2, .ref a3, .ref a4, .ref a5, .ref a6, .ref a7, .ref a8, .ref a9])), (a2, .inl (cI, 6, .inl (fun _ => 0))), (a3, .inl (cI, 6, .inl (fun _ => 0))), (a4, .inl (cI, 6, .inl (fun _ => 0))), (a5, .inl (cI, 6, .inl (fun _ => 0))), (a6, .inl (cI, 6, .inl (fun _ => 0))), (a7, .inl (cI, 40, .inl (fun _ => 0))), (a8, .inl (cI, 40, .inl (fun _ => 0))), (a9, .inl (cI, 40, .inl (fun _ => 0))), (a10, .inl (cT, 3, .inr (.inr (.inr (.inr (va_up (va_up (va_up (fun _ => none) 0 (some a11)) 1 (some a29)) 2 (some a30))))))), (a11, .inr (7, [.int 0, .int 0, .int 0, .int 0, .int 0, .int 0, .int 0, .int 0, .ref a12, .ref a13, .ref a14, .ref a15, .ref a16, .ref a17, .ref a18, .ref a19])), (a12, .inl (cI, 6, .inl (fun _ => 0))), (a13, .inl (cI, 6, .inl (fun _ => 0))), (a14, .inl (cI, 6, .inl (fun _ => 0))), (a15, .inl (cI, 6, .inl (fun _ => 0))), (a16, .inl (cI, 6, .inl (fun _ => 0))), (a17, .inl (cI, 40, .inl (fun _ => 0))), (a18, .inl (cI, 40, .inl (fun _ => 0))), (a19, .inl (cI, 40, .inl (fun _ => 0)))] s.heap.size) s.heap H locs := by rw [← hAe]; exact hS
  have hP9 := hP.sub (ws' := [(a0, .inr (9, [.ref a20, .ref a1, .ref a21, .ref a10, .int 1, .ref a22, .ref a23, .ref a24, .ref a25, .ref a26, .ref a27, .ref a28])), (a10, .inl (cT, 3, .inr (.inr (.inr (.inr (va_up (va_up (va_up (fun _ => none) 0 (some a11)) 1 (some a29)) 2 (some a30))))))), (a1, .inr (7, [.int 0, .int 0, .int 0, .int 0, .int 0, .int 0, .int 0, .int 0, .ref a2, .ref a3, .ref a4, .ref a5, .ref a6, .ref a7, .ref a8, .ref a9])), (a2, .inl (cI, 6, .inl (fun _ => 0))), (a3, .inl (cI, 6, .inl (fun _ => 0))), (a4, .inl (cI, 6, .inl (fun _ => 0))), (a5, .inl (cI, 6, .inl (fun _ => 0))), (a6, .inl (cI, 6, .inl (fun _ => 0))), (a7, .inl (cI, 40, .inl (fun _ => 0))), (a8, .inl (cI, 40, .inl (fun _ => 0))), (a9, .inl (cI, 40, .inl (fun _ => 0))), (a11, .inr (7, [.int 0, .int 0, .int 0, .int 0, .int 0, .int 0, .int 0, .int 0, .ref a12, .ref a13, .ref a14, .ref a15, .ref a16, .ref a17, .ref a18, .ref a19])), (a12, .inl (cI, 6, .inl f1)), (a13, .inl (cI, 6, .inl f2)), (a14, .inl (cI, 6, .inl f3)), (a15, .inl (cI, 6, .inl f4)), (a16, .inl (cI, 6, .inl f5)), (a17, .inl (cI, 40, .inl f6)), (a18, .inl (cI, 40, .inl f7)), (a19, .inl (cI, 40, .inl f8))]) [0, 1, 2, 3, 4, 5, 6, 7, 8, 9, 10, 11, 12, 13, 14, 15, 16, 17, 18, 19] rfl
  have hD9 := hD8.sub (ws' := [(a0, .inr (9, [.ref a20, .ref a1, .ref a21, .ref a10, .int 1, .ref a22, .ref a23, .ref a24, .ref a25, .ref a26, .ref a27, .ref a28])), (a10, .inl (cT, 3, .inr (.inr (.inr (.inr (va_up (va_up (va_up (fun _ => none) 0 (some a11)) 1 (some a29)) 2 (some a30))))))), (a1, .inr (7, [.int 0, .int 0, .int 0, .int 0, .int 0, .int 0, .int 0, .int 0, .ref a2, .ref a3, .ref a4, .ref a5, .ref a6, .ref a7, .ref a8, .ref a9])), (a2, .inl (cI, 6, .inl (fun _ => 0))), (a3, .inl (cI, 6, .inl (fun _ => 0))), (a4, .inl (cI, 6, .inl (fun _ => 0))), (a5, .inl (cI, 6, .inl (fun _ => 0))), (a6, .inl (cI, 6, .inl (fun _ => 0))), (a7, .inl (cI, 40, .inl (fun _ => 0))), (a8, .inl (cI, 40, .inl (fun _ => 0))), (a9, .inl (cI, 40, .inl (fun _ => 0))), (a11, .inr (7, [.int 0, .int 0, .int 0, .int 0, .int 0, .int 0, .int 0, .int 0, .ref a12, .ref a13, .ref a14, .ref a15, .ref a16, .ref a17, .ref a18, .ref a19])), (a12, .inl (cI, 6, .inl f1)), (a13, .inl (cI, 6, .inl f2)), (a14, .inl (cI, 6, .inl f3)), (a15, .inl (cI, 6, .inl f4)), (a16, .inl (cI, 6, .inl f5)), (a17, .inl (cI, 40, .inl f6)), (a18, .inl (cI, 40, .inl f7)), (a19, .inl (cI, 40, .inl f8))]) [0, 1, 2, 3, 4, 5, 6, 7, 8, 9, 10, 11, 12, 13, 14, 15, 16, 17, 18, 19] rfl rfl
  exact W.iret hx hb hr (fun t ht hW => ⟨⟨0, (f1, f2, f3, f4, f5, f6, f7, f8), rfl, rfl, by rw [ht]; exact hP9, va_K.moved hW.alike hK, hD9⟩, hS8.F ht⟩) hS8.2.2 dX9_image_38
set_option maxHeartbeats 4000000 in
set_option maxRecDepth 100000 in
theorem lp_X10_copyRow_6 {p : Program} {l : Launch} {e : Env} {R : Room} {s : State} {m : MethodId} {args : Array Value} {below : List Frame} {meth : Method} {c : Code} {cells slots : Nat} {Q : State → Prop} {D : va_G} {AA : Nat → Prop} {H0 : Heap} {Ts : List Cond} {cB cI cJ cZ cT cR : ClassId} {a0 : Nat} (hx : p.tables.exec = Jvm.exec) (hb : c.code = cX10_copyRow) (hT : ∀ w ∈ uw, w ∈ Ts) (hts : ∀ w ∈ Ts, w.before args s = true) (hown : s.vm.findClass RX10 = some m.cls) (hK : va_K D vwCl [(cB, .byte), (cI, .int), (cJ, .long), (cZ, .boolean), (cT, .object RX7), (cR, .object RX3)] s)
    (kx : ∀ (H : Heap) (locs : List Loc) (ls : Array Slot), va_P D vwCl [(a0, .inl (cI, 5, .inl (fun _ => 0)))] H → va_D AA [(a0, .inl (cI, 5, .inl (fun _ => 0)))] → va_S AA H0 H locs → lv_has ls 5 [(4, .int 1), (0, .ref a0), (1, .int 1), (2, .int 0), (3, .int 1)] → W p l e R s m args below meth c H locs cells slots Q (F0 m 31 ls [])) :
    ∀ (j k : Nat), k + j = 1 → ∀ (H : Heap) (locs : List Loc) (ls : Array Slot), va_P D vwCl [(a0, .inl (cI, 5, .inl (fun _ => 0)))] H → va_D AA [(a0, .inl (cI, 5, .inl (fun _ => 0)))] → va_S AA H0 H locs → lv_has ls 5 [(4, .int (nI k)), (0, .ref a0), (1, .int 1), (2, .int 0), (3, .int 1)] → W p l e R s m args below meth c H locs cells slots Q (F0 m 3 ls []) := by
  intro j
  induction j with
  | zero =>
    intro k hk H locs ls hP hD hS hl
    refine lv_iload hx hb dX10_copyRow_3 (lv_at hl 0 rfl) ?_
    refine lv_iload_n hx hb dX10_copyRow_5 rfl (lv_at hl 2 rfl) ?_
    refine lv_icmp_ge (tgt := 31) hx hb dX10_copyRow_6 (by decide) (fun _ => ?_) (fun c9 => absurd (show (1 : Int32) ≤ nI k from nI_le (a := 1) (by omega) (by omega)) c9)
    have ek : k = 1 := by omega
    subst ek
    exact kx H locs ls hP hD hS hl
  | succ j ih =>
    intro k hk H locs ls hP hD hS hl
    refine lv_iload hx hb dX10_copyRow_3 (lv_at hl 0 rfl) ?_
    refine lv_iload_n hx hb dX10_copyRow_5 rfl (lv_at hl 2 rfl) ?_
    refine lv_icmp_ge (tgt := 31) hx hb dX10_copyRow_6 (by decide) (fun c9 => absurd c9 (show ¬ (1 : Int32) ≤ nI k from nI_ge (b := 1) (by omega) (by omega))) (fun _ => ?_)
    refine lv_aload_n hx hb dX10_copyRow_9 rfl (lv_at hl 1 rfl) ?_
    refine lv_iload_n hx hb dX10_copyRow_10 rfl (lv_at hl 2 rfl) ?_
    refine lv_iload_n hx hb dX10_copyRow_11 rfl (lv_at hl 4 rfl) ?_
    refine lv_imul hx hb dX10_copyRow_12 ?_
    refine pv_i (v := 1) (by decide) ?_
    refine lv_iload hx hb dX10_copyRow_13 (lv_at hl 0 rfl) ?_
    refine lv_iadd hx hb dX10_copyRow_15 ?_
    refine pv_i (v := (nI (1 + k))) (nI_add 1 k) ?_
    refine lv_aload_n hx hb dX10_copyRow_16 rfl (lv_at hl 1 rfl) ?_
    refine lv_iload_n hx hb dX10_copyRow_17 rfl (lv_at hl 2 rfl) ?_
    refine lv_iload_n hx hb dX10_copyRow_18 rfl (lv_at hl 3 rfl) ?_
    refine lv_imul hx hb dX10_copyRow_19 ?_
    refine pv_i (v := 0) (by decide) ?_
    refine lv_iload hx hb dX10_copyRow_20 (lv_at hl 0 rfl) ?_
    refine lv_iadd hx hb dX10_copyRow_22 ?_
    refine pv_i (v := (nI (0 + k))) (nI_add 0 k) ?_
    refine va_iald hx hb hK hP 0 1 rfl rfl (vp_in_nI (by omega) (by decide)) dX10_copyRow_23 ?_
    refine pv_i (v := 0) rfl ?_
    refine va_iast hx hb hK hP hD hS 0 1 rfl rfl (vp_in_nI (by omega) (by decide)) dX10_copyRow_24 (fun H locs hP hD hS => ?_)
    rw [upd0] at hP hD
    have hP : va_P D vwCl [(a0, .inl (cI, 5, .inl (fun _ => 0)))] H := hP
    have hD : va_D AA [(a0, .inl (cI, 5, .inl (fun _ => 0)))] := hD
    refine lv_iinc (v := (nI (k + 1))) (lv' := [(4, .int (nI (k + 1))), (0, .ref a0), (1, .int 1), (2, .int 0), (3, .int 1)]) hx hb dX10_copyRow_25 hl (k := 0) rfl (nI_1 k) (by decide) rfl (fun ls hl => ?_)
    refine lv_goto (tgt := 3) hx hb dX10_copyRow_28 (by decide) ?_
    exact ih (k + 1) (by omega) H locs ls hP hD hS (lv_sub hl [0, 1, 2, 3, 4] rfl)
set_option maxHeartbeats 4000000 in
set_option maxRecDepth 100000 in
theorem kX10_copyRow_5 (l : Launch) (D : va_G) (cB cI cJ cZ cT cR : ClassId) (a0 : Nat) (sz : Nat) : Met l yX10_copyRow (uc yX10_copyRow cX10_copyRow 5 none) (rmL 1 0 0) (va_Pc [.ref a0, .int 1, .int 0, .int 1] (MPre D [(cB, .byte), (cI, .int), (cJ, .long), (cZ, .boolean), (cT, .object RX7), (cR, .object RX3)] [(a0, .inl (cI, 5, .inl (fun _ => 0)))] sz)) (va_Qv (fun (_ : Unit) => True) (MB D [(cB, .byte), (cI, .int), (cJ, .long), (cZ, .boolean), (cT, .object RX7), (cR, .object RX3)] [(a0, .inl (cI, 5, .inl (fun _ => 0)))] sz (fun (u : Unit) => [(a0, .inl (cI, 5, .inl (fun _ => 0)))])) (va_A [(a0, .inl (cI, 5, .inl (fun _ => 0)))] sz)) 0 0 (va_A [(a0, .inl (cI, 5, .inl (fun _ => 0)))] sz) := by
  refine pm (by decide) (Nat.le_of_ble_eq_true rfl) ?_
  intro p e s m below meth c ls hx hb hr hml hown hlk hnm hts hv hl
  have hown : s.vm.findClass RX10 = some m.cls := hown
  have hl : lv_has ls 5 [(0, .ref a0), (1, .int 1), (2, .int 0), (3, .int 1)] := hl
  obtain ⟨hsz, hP, hK, hD0, hE⟩ := hv
  subst hsz
  have hD := hD0.self (sz := s.heap.size)
  obtain ⟨AA, hAe⟩ : ∃ AA, AA = va_A [(a0, .inl (cI, 5, .inl (fun _ => 0)))] s.heap.size := ⟨_, rfl⟩
  rw [← hAe] at hD
  have hA : ∀ q : Nat, s.heap.size ≤ q → AA q := fun q h => by rw [hAe]; exact Or.inr h
  have hS : va_S AA s.heap s.heap [] := va_S.rf
  obtain ⟨-, hAOT, hAOR, hAOI⟩ := id hE
  refine lv_iconst (v := 0) hx hb dX10_copyRow_0 (by decide) ?_
  refine lv_istore (lv' := [(4, .int 0), (0, .ref a0), (1, .int 1), (2, .int 0), (3, .int 1)]) hx hb dX10_copyRow_1 hl (by decide) rfl (fun ls hl => ?_)
  refine lp_X10_copyRow_6 hx hb uc_in hts hown hK (fun H locs ls hP hD hS hl => ?_) 1 0 (by omega) _ _ ls hP hD hS hl
  have hP : va_P D vwCl [(a0, .inl (cI, 5, .inl (fun _ => 0)))] H := hP
  have hD : va_D AA [(a0, .inl (cI, 5, .inl (fun _ => 0)))] := hD
  subst hAe
  have hP9 := hP.sub (ws' := [(a0, .inl (cI, 5, .inl (fun _ => 0)))]) [0] rfl
  have hD9 := hD.sub (ws' := [(a0, .inl (cI, 5, .inl (fun _ => 0)))]) [0] rfl rfl
  exact W.vret hx hb hr (fun t ht hW => ⟨⟨(), rfl, trivial, by rw [ht]; exact hP9, va_K.moved hW.alike hK, hD9⟩, hS.F ht⟩) hS.2.2 dX10_copyRow_31
set_option maxHeartbeats 4000000 in
set_option maxRecDepth 100000 in
theorem lp_X10_copyRow_7 {p : Program} {l : Launch} {e : Env} {R : Room} {s : State} {m : MethodId} {args : Array Value} {below : List Frame} {meth : Method} {c : Code} {cells slots : Nat} {Q : State → Prop} {D : va_G} {AA : Nat → Prop} {H0 : Heap} {Ts : List Cond} {cB cI cJ cZ cT cR : ClassId} {a0 : Nat} (hx : p.tables.exec = Jvm.exec) (hb : c.code = cX10_copyRow) (hT : ∀ w ∈ uw, w ∈ Ts) (hts : ∀ w ∈ Ts, w.before args s = true) (hown : s.vm.findClass RX10 = some m.cls) (hK : va_K D vwCl [(cB, .byte), (cI, .int), (cJ, .long), (cZ, .boolean), (cT, .object RX7), (cR, .object RX3)] s)
    (kx : ∀ (H : Heap) (locs : List Loc) (ls : Array Slot), va_P D vwCl [(a0, .inl (cI, 30, .inl (fun _ => 0)))] H → va_D AA [(a0, .inl (cI, 30, .inl (fun _ => 0)))] → va_S AA H0 H locs → lv_has ls 5 [(4, .int 6), (0, .ref a0), (1, .int 6), (2, .int 0), (3, .int 1)] → W p l e R s m args below meth c H locs cells slots Q (F0 m 31 ls [])) :
    ∀ (j k : Nat), k + j = 6 → ∀ (H : Heap) (locs : List Loc) (ls : Array Slot), va_P D vwCl [(a0, .inl (cI, 30, .inl (fun _ => 0)))] H → va_D AA [(a0, .inl (cI, 30, .inl (fun _ => 0)))] → va_S AA H0 H locs → lv_has ls 5 [(4, .int (nI k)), (0, .ref a0), (1, .int 6), (2, .int 0), (3, .int 1)] → W p l e R s m args below meth c H locs cells slots Q (F0 m 3 ls []) := by
  intro j
  induction j with
  | zero =>
    intro k hk H locs ls hP hD hS hl
    refine lv_iload hx hb dX10_copyRow_3 (lv_at hl 0 rfl) ?_
    refine lv_iload_n hx hb dX10_copyRow_5 rfl (lv_at hl 2 rfl) ?_
    refine lv_icmp_ge (tgt := 31) hx hb dX10_copyRow_6 (by decide) (fun _ => ?_) (fun c9 => absurd (show (6 : Int32) ≤ nI k from nI_le (a := 6) (by omega) (by omega)) c9)
    have ek : k = 6 := by omega
    subst ek
    exact kx H locs ls hP hD hS hl
  | succ j ih =>
    intro k hk H locs ls hP hD hS hl
    refine lv_iload hx hb dX10_copyRow_3 (lv_at hl 0 rfl) ?_
    refine lv_iload_n hx hb dX10_copyRow_5 rfl (lv_at hl 2 rfl) ?_
    refine lv_icmp_ge (tgt := 31) hx hb dX10_copyRow_6 (by decide) (fun c9 => absurd c9 (show ¬ (6 : Int32) ≤ nI k from nI_ge (b := 6) (by omega) (by omega))) (fun _ => ?_)
    refine lv_aload_n hx hb dX10_copyRow_9 rfl (lv_at hl 1 rfl) ?_
    refine lv_iload_n hx hb dX10_copyRow_10 rfl (lv_at hl 2 rfl) ?_
    refine lv_iload_n hx hb dX10_copyRow_11 rfl (lv_at hl 4 rfl) ?_
    refine lv_imul hx hb dX10_copyRow_12 ?_
    refine pv_i (v := 6) (by decide) ?_
    refine lv_iload hx hb dX10_copyRow_13 (lv_at hl 0 rfl) ?_
    refine lv_iadd hx hb dX10_copyRow_15 ?_
    refine pv_i (v := (nI (6 + k))) (nI_add 6 k) ?_
    refine lv_aload_n hx hb dX10_copyRow_16 rfl (lv_at hl 1 rfl) ?_
    refine lv_iload_n hx hb dX10_copyRow_17 rfl (lv_at hl 2 rfl) ?_
    refine lv_iload_n hx hb dX10_copyRow_18 rfl (lv_at hl 3 rfl) ?_
    refine lv_imul hx hb dX10_copyRow_19 ?_
    refine pv_i (v := 0) (by decide) ?_
    refine lv_iload hx hb dX10_copyRow_20 (lv_at hl 0 rfl) ?_
    refine lv_iadd hx hb dX10_copyRow_22 ?_
    refine pv_i (v := (nI (0 + k))) (nI_add 0 k) ?_
    refine va_iald hx hb hK hP 0 1 rfl rfl (vp_in_nI (by omega) (by decide)) dX10_copyRow_23 ?_
    refine pv_i (v := 0) rfl ?_
    refine va_iast hx hb hK hP hD hS 0 1 rfl rfl (vp_in_nI (by omega) (by decide)) dX10_copyRow_24 (fun H locs hP hD hS => ?_)
    rw [upd0] at hP hD
    have hP : va_P D vwCl [(a0, .inl (cI, 30, .inl (fun _ => 0)))] H := hP
    have hD : va_D AA [(a0, .inl (cI, 30, .inl (fun _ => 0)))] := hD
    refine lv_iinc (v := (nI (k + 1))) (lv' := [(4, .int (nI (k + 1))), (0, .ref a0), (1, .int 6), (2, .int 0), (3, .int 1)]) hx hb dX10_copyRow_25 hl (k := 0) rfl (nI_1 k) (by decide) rfl (fun ls hl => ?_)
    refine lv_goto (tgt := 3) hx hb dX10_copyRow_28 (by decide) ?_
    exact ih (k + 1) (by omega) H locs ls hP hD hS (lv_sub hl [0, 1, 2, 3, 4] rfl)
set_option maxHeartbeats 4000000 in
set_option maxRecDepth 100000 in
theorem kX10_copyRow_6 (l : Launch) (D : va_G) (cB cI cJ cZ cT cR : ClassId) (a0 : Nat) (sz : Nat) : Met l yX10_copyRow (uc yX10_copyRow cX10_copyRow 5 none) (rmL 1 0 0) (va_Pc [.ref a0, .int 6, .int 0, .int 1] (MPre D [(cB, .byte), (cI, .int), (cJ, .long), (cZ, .boolean), (cT, .object RX7), (cR, .object RX3)] [(a0, .inl (cI, 30, .inl (fun _ => 0)))] sz)) (va_Qv (fun (_ : Unit) => True) (MB D [(cB, .byte), (cI, .int), (cJ, .long), (cZ, .boolean), (cT, .object RX7), (cR, .object RX3)] [(a0, .inl (cI, 30, .inl (fun _ => 0)))] sz (fun (u : Unit) => [(a0, .inl (cI, 30, .inl (fun _ => 0)))])) (va_A [(a0, .inl (cI, 30, .inl (fun _ => 0)))] sz)) 0 0 (va_A [(a0, .inl (cI, 30, .inl (fun _ => 0)))] sz) := by
  refine pm (by decide) (Nat.le_of_ble_eq_true rfl) ?_
  intro p e s m below meth c ls hx hb hr hml hown hlk hnm hts hv hl
  have hown : s.vm.findClass RX10 = some m.cls := hown
  have hl : lv_has ls 5 [(0, .ref a0), (1, .int 6), (2, .int 0), (3, .int 1)] := hl
  obtain ⟨hsz, hP, hK, hD0, hE⟩ := hv
  subst hsz
  have hD := hD0.self (sz := s.heap.size)
  obtain ⟨AA, hAe⟩ : ∃ AA, AA = va_A [(a0, .inl (cI, 30, .inl (fun _ => 0)))] s.heap.size := ⟨_, rfl⟩
  rw [← hAe] at hD
  have hA : ∀ q : Nat, s.heap.size ≤ q → AA q := fun q h => by rw [hAe]; exact Or.inr h
  have hS : va_S AA s.heap s.heap [] := va_S.rf
  obtain ⟨-, hAOT, hAOR, hAOI⟩ := id hE
  refine lv_iconst (v := 0) hx hb dX10_copyRow_0 (by decide) ?_
  refine lv_istore (lv' := [(4, .int 0), (0, .ref a0), (1, .int 6), (2, .int 0), (3, .int 1)]) hx hb dX10_copyRow_1 hl (by decide) rfl (fun ls hl => ?_)
  refine lp_X10_copyRow_7 hx hb uc_in hts hown hK (fun H locs ls hP hD hS hl => ?_) 6 0 (by omega) _ _ ls hP hD hS hl
  have hP : va_P D vwCl [(a0, .inl (cI, 30, .inl (fun _ => 0)))] H := hP
  have hD : va_D AA [(a0, .inl (cI, 30, .inl (fun _ => 0)))] := hD
  subst hAe
  have hP9 := hP.sub (ws' := [(a0, .inl (cI, 30, .inl (fun _ => 0)))]) [0] rfl
  have hD9 := hD.sub (ws' := [(a0, .inl (cI, 30, .inl (fun _ => 0)))]) [0] rfl rfl
  exact W.vret hx hb hr (fun t ht hW => ⟨⟨(), rfl, trivial, by rw [ht]; exact hP9, va_K.moved hW.alike hK, hD9⟩, hS.F ht⟩) hS.2.2 dX10_copyRow_31
set_option maxHeartbeats 4000000 in
set_option maxRecDepth 100000 in
theorem lp_X10_copyRow_8 {p : Program} {l : Launch} {e : Env} {R : Room} {s : State} {m : MethodId} {args : Array Value} {below : List Frame} {meth : Method} {c : Code} {cells slots : Nat} {Q : State → Prop} {D : va_G} {AA : Nat → Prop} {H0 : Heap} {Ts : List Cond} {cB cI cJ cZ cT cR : ClassId} {a0 : Nat} (hx : p.tables.exec = Jvm.exec) (hb : c.code = cX10_copyRow) (hT : ∀ w ∈ uw, w ∈ Ts) (hts : ∀ w ∈ Ts, w.before args s = true) (hown : s.vm.findClass RX10 = some m.cls) (hK : va_K D vwCl [(cB, .byte), (cI, .int), (cJ, .long), (cZ, .boolean), (cT, .object RX7), (cR, .object RX3)] s)
    (kx : ∀ (H : Heap) (locs : List Loc) (ls : Array Slot), va_P D vwCl [(a0, .inl (cI, 150, .inl (fun _ => 0)))] H → va_D AA [(a0, .inl (cI, 150, .inl (fun _ => 0)))] → va_S AA H0 H locs → lv_has ls 5 [(4, .int 30), (0, .ref a0), (1, .int 30), (2, .int 0), (3, .int 1)] → W p l e R s m args below meth c H locs cells slots Q (F0 m 31 ls [])) :
    ∀ (j k : Nat), k + j = 30 → ∀ (H : Heap) (locs : List Loc) (ls : Array Slot), va_P D vwCl [(a0, .inl (cI, 150, .inl (fun _ => 0)))] H → va_D AA [(a0, .inl (cI, 150, .inl (fun _ => 0)))] → va_S AA H0 H locs → lv_has ls 5 [(4, .int (nI k)), (0, .ref a0), (1, .int 30), (2, .int 0), (3, .int 1)] → W p l e R s m args below meth c H locs cells slots Q (F0 m 3 ls []) := by
  intro j
  induction j with
  | zero =>
    intro k hk H locs ls hP hD hS hl
    refine lv_iload hx hb dX10_copyRow_3 (lv_at hl 0 rfl) ?_
    refine lv_iload_n hx hb dX10_copyRow_5 rfl (lv_at hl 2 rfl) ?_
    refine lv_icmp_ge (tgt := 31) hx hb dX10_copyRow_6 (by decide) (fun _ => ?_) (fun c9 => absurd (show (30 : Int32) ≤ nI k from nI_le (a := 30) (by omega) (by omega)) c9)
    have ek : k = 30 := by omega
    subst ek
    exact kx H locs ls hP hD hS hl
  | succ j ih =>
    intro k hk H locs ls hP hD hS hl
    refine lv_iload hx hb dX10_copyRow_3 (lv_at hl 0 rfl) ?_
    refine lv_iload_n hx hb dX10_copyRow_5 rfl (lv_at hl 2 rfl) ?_
    refine lv_icmp_ge (tgt := 31) hx hb dX10_copyRow_6 (by decide) (fun c9 => absurd c9 (show ¬ (30 : Int32) ≤ nI k from nI_ge (b := 30) (by omega) (by omega))) (fun _ => ?_)
    refine lv_aload_n hx hb dX10_copyRow_9 rfl (lv_at hl 1 rfl) ?_
    refine lv_iload_n hx hb dX10_copyRow_10 rfl (lv_at hl 2 rfl) ?_
    refine lv_iload_n hx hb dX10_copyRow_11 rfl (lv_at hl 4 rfl) ?_
    refine lv_imul hx hb dX10_copyRow_12 ?_
    refine pv_i (v := 30) (by decide) ?_
    refine lv_iload hx hb dX10_copyRow_13 (lv_at hl 0 rfl) ?_
    refine lv_iadd hx hb dX10_copyRow_15 ?_
    refine pv_i (v := (nI (30 + k))) (nI_add 30 k) ?_
    refine lv_aload_n hx hb dX10_copyRow_16 rfl (lv_at hl 1 rfl) ?_
    refine lv_iload_n hx hb dX10_copyRow_17 rfl (lv_at hl 2 rfl) ?_
    refine lv_iload_n hx hb dX10_copyRow_18 rfl (lv_at hl 3 rfl) ?_
    refine lv_imul hx hb dX10_copyRow_19 ?_
    refine pv_i (v := 0) (by decide) ?_
    refine lv_iload hx hb dX10_copyRow_20 (lv_at hl 0 rfl) ?_
    refine lv_iadd hx hb dX10_copyRow_22 ?_
    refine pv_i (v := (nI (0 + k))) (nI_add 0 k) ?_
    refine va_iald hx hb hK hP 0 1 rfl rfl (vp_in_nI (by omega) (by decide)) dX10_copyRow_23 ?_
    refine pv_i (v := 0) rfl ?_
    refine va_iast hx hb hK hP hD hS 0 1 rfl rfl (vp_in_nI (by omega) (by decide)) dX10_copyRow_24 (fun H locs hP hD hS => ?_)
    rw [upd0] at hP hD
    have hP : va_P D vwCl [(a0, .inl (cI, 150, .inl (fun _ => 0)))] H := hP
    have hD : va_D AA [(a0, .inl (cI, 150, .inl (fun _ => 0)))] := hD
    refine lv_iinc (v := (nI (k + 1))) (lv' := [(4, .int (nI (k + 1))), (0, .ref a0), (1, .int 30), (2, .int 0), (3, .int 1)]) hx hb dX10_copyRow_25 hl (k := 0) rfl (nI_1 k) (by decide) rfl (fun ls hl => ?_)
    refine lv_goto (tgt := 3) hx hb dX10_copyRow_28 (by decide) ?_
    exact ih (k + 1) (by omega) H locs ls hP hD hS (lv_sub hl [0, 1, 2, 3, 4] rfl)
set_option maxHeartbeats 4000000 in
set_option maxRecDepth 100000 in
theorem kX10_copyRow_7 (l : Launch) (D : va_G) (cB cI cJ cZ cT cR : ClassId) (a0 : Nat) (sz : Nat) : Met l yX10_copyRow (uc yX10_copyRow cX10_copyRow 5 none) (rmL 1 0 0) (va_Pc [.ref a0, .int 30, .int 0, .int 1] (MPre D [(cB, .byte), (cI, .int), (cJ, .long), (cZ, .boolean), (cT, .object RX7), (cR, .object RX3)] [(a0, .inl (cI, 150, .inl (fun _ => 0)))] sz)) (va_Qv (fun (_ : Unit) => True) (MB D [(cB, .byte), (cI, .int), (cJ, .long), (cZ, .boolean), (cT, .object RX7), (cR, .object RX3)] [(a0, .inl (cI, 150, .inl (fun _ => 0)))] sz (fun (u : Unit) => [(a0, .inl (cI, 150, .inl (fun _ => 0)))])) (va_A [(a0, .inl (cI, 150, .inl (fun _ => 0)))] sz)) 0 0 (va_A [(a0, .inl (cI, 150, .inl (fun _ => 0)))] sz) := by
  refine pm (by decide) (Nat.le_of_ble_eq_true rfl) ?_
  intro p e s m below meth c ls hx hb hr hml hown hlk hnm hts hv hl
  have hown : s.vm.findClass RX10 = some m.cls := hown
  have hl : lv_has ls 5 [(0, .ref a0), (1, .int 30), (2, .int 0), (3, .int 1)] := hl
  obtain ⟨hsz, hP, hK, hD0, hE⟩ := hv
  subst hsz
  have hD := hD0.self (sz := s.heap.size)
  obtain ⟨AA, hAe⟩ : ∃ AA, AA = va_A [(a0, .inl (cI, 150, .inl (fun _ => 0)))] s.heap.size := ⟨_, rfl⟩
  rw [← hAe] at hD
  have hA : ∀ q : Nat, s.heap.size ≤ q → AA q := fun q h => by rw [hAe]; exact Or.inr h
  have hS : va_S AA s.heap s.heap [] := va_S.rf
  obtain ⟨-, hAOT, hAOR, hAOI⟩ := id hE
  refine lv_iconst (v := 0) hx hb dX10_copyRow_0 (by decide) ?_
  refine lv_istore (lv' := [(4, .int 0), (0, .ref a0), (1, .int 30), (2, .int 0), (3, .int 1)]) hx hb dX10_copyRow_1 hl (by decide) rfl (fun ls hl => ?_)
  refine lp_X10_copyRow_8 hx hb uc_in hts hown hK (fun H locs ls hP hD hS hl => ?_) 30 0 (by omega) _ _ ls hP hD hS hl
  have hP : va_P D vwCl [(a0, .inl (cI, 150, .inl (fun _ => 0)))] H := hP
  have hD : va_D AA [(a0, .inl (cI, 150, .inl (fun _ => 0)))] := hD
  subst hAe
  have hP9 := hP.sub (ws' := [(a0, .inl (cI, 150, .inl (fun _ => 0)))]) [0] rfl
  have hD9 := hD.sub (ws' := [(a0, .inl (cI, 150, .inl (fun _ => 0)))]) [0] rfl rfl
  exact W.vret hx hb hr (fun t ht hW => ⟨⟨(), rfl, trivial, by rw [ht]; exact hP9, va_K.moved hW.alike hK, hD9⟩, hS.F ht⟩) hS.2.2 dX10_copyRow_31
set_option maxHeartbeats 4000000 in
set_option maxRecDepth 100000 in
theorem lp_X10_copyRow_9 {p : Program} {l : Launch} {e : Env} {R : Room} {s : State} {m : MethodId} {args : Array Value} {below : List Frame} {meth : Method} {c : Code} {cells slots : Nat} {Q : State → Prop} {D : va_G} {AA : Nat → Prop} {H0 : Heap} {Ts : List Cond} {cB cI cJ cZ cT cR : ClassId} {a0 : Nat} (hx : p.tables.exec = Jvm.exec) (hb : c.code = cX10_copyRow) (hT : ∀ w ∈ uw, w ∈ Ts) (hts : ∀ w ∈ Ts, w.before args s = true) (hown : s.vm.findClass RX10 = some m.cls) (hK : va_K D vwCl [(cB, .byte), (cI, .int), (cJ, .long), (cZ, .boolean), (cT, .object RX7), (cR, .object RX3)] s)
    (kx : ∀ (H : Heap) (locs : List Loc) (ls : Array Slot), va_P D vwCl [(a0, .inl (cI, 25, .inl (fun _ => 0)))] H → va_D AA [(a0, .inl (cI, 25, .inl (fun _ => 0)))] → va_S AA H0 H locs → lv_has ls 5 [(4, .int 5), (0, .ref a0), (1, .int 5), (2, .int 0), (3, .int 1)] → W p l e R s m args below meth c H locs cells slots Q (F0 m 31 ls [])) :
    ∀ (j k : Nat), k + j = 5 → ∀ (H : Heap) (locs : List Loc) (ls : Array Slot), va_P D vwCl [(a0, .inl (cI, 25, .inl (fun _ => 0)))] H → va_D AA [(a0, .inl (cI, 25, .inl (fun _ => 0)))] → va_S AA H0 H locs → lv_has ls 5 [(4, .int (nI k)), (0, .ref a0), (1, .int 5), (2, .int 0), (3, .int 1)] → W p l e R s m args below meth c H locs cells slots Q (F0 m 3 ls []) := by
  intro j
  induction j with
  | zero =>
    intro k hk H locs ls hP hD hS hl
    refine lv_iload hx hb dX10_copyRow_3 (lv_at hl 0 rfl) ?_
    refine lv_iload_n hx hb dX10_copyRow_5 rfl (lv_at hl 2 rfl) ?_
    refine lv_icmp_ge (tgt := 31) hx hb dX10_copyRow_6 (by decide) (fun _ => ?_) (fun c9 => absurd (show (5 : Int32) ≤ nI k from nI_le (a := 5) (by omega) (by omega)) c9)
    have ek : k = 5 := by omega
    subst ek
    exact kx H locs ls hP hD hS hl
  | succ j ih =>
    intro k hk H locs ls hP hD hS hl
    refine lv_iload hx hb dX10_copyRow_3 (lv_at hl 0 rfl) ?_
    refine lv_iload_n hx hb dX10_copyRow_5 rfl (lv_at hl 2 rfl) ?_
    refine lv_icmp_ge (tgt := 31) hx hb dX10_copyRow_6 (by decide) (fun c9 => absurd c9 (show ¬ (5 : Int32) ≤ nI k from nI_ge (b := 5) (by omega) (by omega))) (fun _ => ?_)
    refine lv_aload_n hx hb dX10_copyRow_9 rfl (lv_at hl 1 rfl) ?_
    refine lv_iload_n hx hb dX10_copyRow_10 rfl (lv_at hl 2 rfl) ?_
    refine lv_iload_n hx hb dX10_copyRow_11 rfl (lv_at hl 4 rfl) ?_
    refine lv_imul hx hb dX10_copyRow_12 ?_
    refine pv_i (v := 5) (by decide) ?_
    refine lv_iload hx hb dX10_copyRow_13 (lv_at hl 0 rfl) ?_
    refine lv_iadd hx hb dX10_copyRow_15 ?_
    refine pv_i (v := (nI (5 + k))) (nI_add 5 k) ?_
    refine lv_aload_n hx hb dX10_copyRow_16 rfl (lv_at hl 1 rfl) ?_
    refine lv_iload_n hx hb dX10_copyRow_17 rfl (lv_at hl 2 rfl) ?_
    refine lv_iload_n hx hb dX10_copyRow_18 rfl (lv_at hl 3 rfl) ?_
    refine lv_imul hx hb dX10_copyRow_19 ?_
    refine pv_i (v := 0) (by decide) ?_
    refine lv_iload hx hb dX10_copyRow_20 (lv_at hl 0 rfl) ?_
    refine lv_iadd hx hb dX10_copyRow_22 ?_
    refine pv_i (v := (nI (0 + k))) (nI_add 0 k) ?_
    refine va_iald hx hb hK hP 0 1 rfl rfl (vp_in_nI (by omega) (by decide)) dX10_copyRow_23 ?_
    refine pv_i (v := 0) rfl ?_
    refine va_iast hx hb hK hP hD hS 0 1 rfl rfl (vp_in_nI (by omega) (by decide)) dX10_copyRow_24 (fun H locs hP hD hS => ?_)
    rw [upd0] at hP hD
    have hP : va_P D vwCl [(a0, .inl (cI, 25, .inl (fun _ => 0)))] H := hP
    have hD : va_D AA [(a0, .inl (cI, 25, .inl (fun _ => 0)))] := hD
    refine lv_iinc (v := (nI (k + 1))) (lv' := [(4, .int (nI (k + 1))), (0, .ref a0), (1, .int 5), (2, .int 0), (3, .int 1)]) hx hb dX10_copyRow_25 hl (k := 0) rfl (nI_1 k) (by decide) rfl (fun ls hl => ?_)
    refine lv_goto (tgt := 3) hx hb dX10_copyRow_28 (by decide) ?_
    exact ih (k + 1) (by omega) H locs ls hP hD hS (lv_sub hl [0, 1, 2, 3, 4] rfl)
set_option maxHeartbeats 4000000 in
set_option maxRecDepth 100000 in
theorem kX10_copyRow_8 (l : Launch) (D : va_G) (cB cI cJ cZ cT cR : ClassId) (a0 : Nat) (sz : Nat) : Met l yX10_copyRow (uc yX10_copyRow cX10_copyRow 5 none) (rmL 1 0 0) (va_Pc [.ref a0, .int 5, .int 0, .int 1] (MPre D [(cB, .byte), (cI, .int), (cJ, .long), (cZ, .boolean), (cT, .object RX7), (cR, .object RX3)] [(a0, .inl (cI, 25, .inl (fun _ => 0)))] sz)) (va_Qv (fun (_ : Unit) => True) (MB D [(cB, .byte), (cI, .int), (cJ, .long), (cZ, .boolean), (cT, .object RX7), (cR, .object RX3)] [(a0, .inl (cI, 25, .inl (fun _ => 0)))] sz (fun (u : Unit) => [(a0, .inl (cI, 25, .inl (fun _ => 0)))])) (va_A [(a0, .inl (cI, 25, .inl (fun _ => 0)))] sz)) 0 0 (va_A [(a0, .inl (cI, 25, .inl (fun _ => 0)))] sz) := by
  refine pm (by decide) (Nat.le_of_ble_eq_true rfl) ?_
  intro p e s m below meth c ls hx hb hr hml hown hlk hnm hts hv hl
  have hown : s.vm.findClass RX10 = some m.cls := hown
  have hl : lv_has ls 5 [(0, .ref a0), (1, .int 5), (2, .int 0), (3, .int 1)] := hl
  obtain ⟨hsz, hP, hK, hD0, hE⟩ := hv
  subst hsz
  have hD := hD0.self (sz := s.heap.size)
  obtain ⟨AA, hAe⟩ : ∃ AA, AA = va_A [(a0, .inl (cI, 25, .inl (fun _ => 0)))] s.heap.size := ⟨_, rfl⟩
  rw [← hAe] at hD
  have hA : ∀ q : Nat, s.heap.size ≤ q → AA q := fun q h => by rw [hAe]; exact Or.inr h
  have hS : va_S AA s.heap s.heap [] := va_S.rf
  obtain ⟨-, hAOT, hAOR, hAOI⟩ := id hE
  refine lv_iconst (v := 0) hx hb dX10_copyRow_0 (by decide) ?_
  refine lv_istore (lv' := [(4, .int 0), (0, .ref a0), (1, .int 5), (2, .int 0), (3, .int 1)]) hx hb dX10_copyRow_1 hl (by decide) rfl (fun ls hl => ?_)
  refine lp_X10_copyRow_9 hx hb uc_in hts hown hK (fun H locs ls hP hD hS hl => ?_) 5 0 (by omega) _ _ ls hP hD hS hl
  have hP : va_P D vwCl [(a0, .inl (cI, 25, .inl (fun _ => 0)))] H := hP
  have hD : va_D AA [(a0, .inl (cI, 25, .inl (fun _ => 0)))] := hD
  subst hAe
  have hP9 := hP.sub (ws' := [(a0, .inl (cI, 25, .inl (fun _ => 0)))]) [0] rfl
  have hD9 := hD.sub (ws' := [(a0, .inl (cI, 25, .inl (fun _ => 0)))]) [0] rfl rfl
  exact W.vret hx hb hr (fun t ht hW => ⟨⟨(), rfl, trivial, by rw [ht]; exact hP9, va_K.moved hW.alike hK, hD9⟩, hS.F ht⟩) hS.2.2 dX10_copyRow_31
set_option maxHeartbeats 4000000 in
set_option maxRecDepth 100000 in
theorem lp_X10_copyRow_10 {p : Program} {l : Launch} {e : Env} {R : Room} {s : State} {m : MethodId} {args : Array Value} {below : List Frame} {meth : Method} {c : Code} {cells slots : Nat} {Q : State → Prop} {D : va_G} {AA : Nat → Prop} {H0 : Heap} {Ts : List Cond} {cB cI cJ cZ cT cR : ClassId} {a0 : Nat} (hx : p.tables.exec = Jvm.exec) (hb : c.code = cX10_copyRow) (hT : ∀ w ∈ uw, w ∈ Ts) (hts : ∀ w ∈ Ts, w.before args s = true) (hown : s.vm.findClass RX10 = some m.cls) (hK : va_K D vwCl [(cB, .byte), (cI, .int), (cJ, .long), (cZ, .boolean), (cT, .object RX7), (cR, .object RX3)] s)
    (kx : ∀ (H : Heap) (locs : List Loc) (ls : Array Slot), va_P D vwCl [(a0, .inl (cI, 600, .inl (fun _ => 0)))] H → va_D AA [(a0, .inl (cI, 600, .inl (fun _ => 0)))] → va_S AA H0 H locs → lv_has ls 5 [(4, .int 120), (0, .ref a0), (1, .int 120), (2, .int 0), (3, .int 1)] → W p l e R s m args below meth c H locs cells slots Q (F0 m 31 ls [])) :
    ∀ (j k : Nat), k + j = 120 → ∀ (H : Heap) (locs : List Loc) (ls : Array Slot), va_P D vwCl [(a0, .inl (cI, 600, .inl (fun _ => 0)))] H → va_D AA [(a0, .inl (cI, 600, .inl (fun _ => 0)))] → va_S AA H0 H locs → lv_has ls 5 [(4, .int (nI k)), (0, .ref a0), (1, .int 120), (2, .int 0), (3, .int 1)] → W p l e R s m args below meth c H locs cells slots Q (F0 m 3 ls []) := by
  intro j
  induction j with
  | zero =>
    intro k hk H locs ls hP hD hS hl
    refine lv_iload hx hb dX10_copyRow_3 (lv_at hl 0 rfl) ?_
    refine lv_iload_n hx hb dX10_copyRow_5 rfl (lv_at hl 2 rfl) ?_
    refine lv_icmp_ge (tgt := 31) hx hb dX10_copyRow_6 (by decide) (fun _ => ?_) (fun c9 => absurd (show (120 : Int32) ≤ nI k from nI_le (a := 120) (by omega) (by omega)) c9)
    have ek : k = 120 := by omega
    subst ek
    exact kx H locs ls hP hD hS hl
  | succ j ih =>
    intro k hk H locs ls hP hD hS hl
    refine lv_iload hx hb dX10_copyRow_3 (lv_at hl 0 rfl) ?_
    refine lv_iload_n hx hb dX10_copyRow_5 rfl (lv_at hl 2 rfl) ?_
    refine lv_icmp_ge (tgt := 31) hx hb dX10_copyRow_6 (by decide) (fun c9 => absurd c9 (show ¬ (120 : Int32) ≤ nI k from nI_ge (b := 120) (by omega) (by omega))) (fun _ => ?_)
    refine lv_aload_n hx hb dX10_copyRow_9 rfl (lv_at hl 1 rfl) ?_
    refine lv_iload_n hx hb dX10_copyRow_10 rfl (lv_at hl 2 rfl) ?_
    refine lv_iload_n hx hb dX10_copyRow_11 rfl (lv_at hl 4 rfl) ?_
    refine lv_imul hx hb dX10_copyRow_12 ?_
    refine pv_i (v := 120) (by decide) ?_
    refine lv_iload hx hb dX10_copyRow_13 (lv_at hl 0 rfl) ?_
    refine lv_iadd hx hb dX10_copyRow_15 ?_
    refine pv_i (v := (nI (120 + k))) (nI_add 120 k) ?_
    refine lv_aload_n hx hb dX10_copyRow_16 rfl (lv_at hl 1 rfl) ?_
    refine lv_iload_n hx hb dX10_copyRow_17 rfl (lv_at hl 2 rfl) ?_
    refine lv_iload_n hx hb dX10_copyRow_18 rfl (lv_at hl 3 rfl) ?_
    refine lv_imul hx hb dX10_copyRow_19 ?_
    refine pv_i (v := 0) (by decide) ?_
    refine lv_iload hx hb dX10_copyRow_20 (lv_at hl 0 rfl) ?_
    refine lv_iadd hx hb dX10_copyRow_22 ?_
    refine pv_i (v := (nI (0 + k))) (nI_add 0 k) ?_
    refine va_iald hx hb hK hP 0 1 rfl rfl (vp_in_nI (by omega) (by decide)) dX10_copyRow_23 ?_
    refine pv_i (v := 0) rfl ?_
    refine va_iast hx hb hK hP hD hS 0 1 rfl rfl (vp_in_nI (by omega) (by decide)) dX10_copyRow_24 (fun H locs hP hD hS => ?_)
    rw [upd0] at hP hD
    have hP : va_P D vwCl [(a0, .inl (cI, 600, .inl (fun _ => 0)))] H := hP
    have hD : va_D AA [(a0, .inl (cI, 600, .inl (fun _ => 0)))] := hD
    refine lv_iinc (v := (nI (k + 1))) (lv' := [(4, .int (nI (k + 1))), (0, .ref a0), (1, .int 120), (2, .int 0), (3, .int 1)]) hx hb dX10_copyRow_25 hl (k := 0) rfl (nI_1 k) (by decide) rfl (fun ls hl => ?_)
    refine lv_goto (tgt := 3) hx hb dX10_copyRow_28 (by decide) ?_
    exact ih (k + 1) (by omega) H locs ls hP hD hS (lv_sub hl [0, 1, 2, 3, 4] rfl)
set_option maxHeartbeats 4000000 in
set_option maxRecDepth 100000 in
theorem kX10_copyRow_9 (l : Launch) (D : va_G) (cB cI cJ cZ cT cR : ClassId) (a0 : Nat) (sz : Nat) : Met l yX10_copyRow (uc yX10_copyRow cX10_copyRow 5 none) (rmL 1 0 0) (va_Pc [.ref a0, .int 120, .int 0, .int 1] (MPre D [(cB, .byte), (cI, .int), (cJ, .long), (cZ, .boolean), (cT, .object RX7), (cR, .object RX3)] [(a0, .inl (cI, 600, .inl (fun _ => 0)))] sz)) (va_Qv (fun (_ : Unit) => True) (MB D [(cB, .byte), (cI, .int), (cJ, .long), (cZ, .boolean), (cT, .object RX7), (cR, .object RX3)] [(a0, .inl (cI, 600, .inl (fun _ => 0)))] sz (fun (u : Unit) => [(a0, .inl (cI, 600, .inl (fun _ => 0)))])) (va_A [(a0, .inl (cI, 600, .inl (fun _ => 0)))] sz)) 0 0 (va_A [(a0, .inl (cI, 600, .inl (fun _ => 0)))] sz) := by
  refine pm (by decide) (Nat.le_of_ble_eq_true rfl) ?_
  intro p e s m below meth c ls hx hb hr hml hown hlk hnm hts hv hl
  have hown : s.vm.findClass RX10 = some m.cls := hown
  have hl : lv_has ls 5 [(0, .ref a0), (1, .int 120), (2, .int 0), (3, .int 1)] := hl
  obtain ⟨hsz, hP, hK, hD0, hE⟩ := hv
  subst hsz
  have hD := hD0.self (sz := s.heap.size)
  obtain ⟨AA, hAe⟩ : ∃ AA, AA = va_A [(a0, .inl (cI, 600, .inl (fun _ => 0)))] s.heap.size := ⟨_, rfl⟩
  rw [← hAe] at hD
  have hA : ∀ q : Nat, s.heap.size ≤ q → AA q := fun q h => by rw [hAe]; exact Or.inr h
  have hS : va_S AA s.heap s.heap [] := va_S.rf
  obtain ⟨-, hAOT, hAOR, hAOI⟩ := id hE
  refine lv_iconst (v := 0) hx hb dX10_copyRow_0 (by decide) ?_
  refine lv_istore (lv' := [(4, .int 0), (0, .ref a0), (1, .int 120), (2, .int 0), (3, .int 1)]) hx hb dX10_copyRow_1 hl (by decide) rfl (fun ls hl => ?_)
  refine lp_X10_copyRow_10 hx hb uc_in hts hown hK (fun H locs ls hP hD hS hl => ?_) 120 0 (by omega) _ _ ls hP hD hS hl
  have hP : va_P D vwCl [(a0, .inl (cI, 600, .inl (fun _ => 0)))] H := hP
  have hD : va_D AA [(a0, .inl (cI, 600, .inl (fun _ => 0)))] := hD
  subst hAe
  have hP9 := hP.sub (ws' := [(a0, .inl (cI, 600, .inl (fun _ => 0)))]) [0] rfl
  have hD9 := hD.sub (ws' := [(a0, .inl (cI, 600, .inl (fun _ => 0)))]) [0] rfl rfl
  exact W.vret hx hb hr (fun t ht hW => ⟨⟨(), rfl, trivial, by rw [ht]; exact hP9, va_K.moved hW.alike hK, hD9⟩, hS.F ht⟩) hS.2.2 dX10_copyRow_31
set_option maxHeartbeats 4000000 in
set_option maxRecDepth 100000 in
theorem kX10_copyTown_1 (l : Launch) (D : va_G) (cB cI cJ cZ cT cR : ClassId) (a0 a1 a2 a3 a4 a5 a6 a7 a8 a9 a10 a11 a12 a13 a14 a15 a16 a17 a18 : Nat) (sz : Nat) : Met l yX10_copyTown (uc yX10_copyTown cX10_copyTown 3 none) (rmL 2 0 0) (va_Pc [.ref a0, .int 0, .int 1] (MPre D [(cB, .byte), (cI, .int), (cJ, .long), (cZ, .boolean), (cT, .object RX7), (cR, .object RX3)] [(a0, .inr (10, [.int 0, .ref a6, .ref a7, .ref a8, .ref a9, .ref a10, .int 0, .int 0, .int 0, .int 0, .int 0, .long 0, .int 0, .int 0, .int 0, .int (-1), .ref a1, .ref a2, .ref a3, .ref a4, .ref a5, .ref a11, .ref a12, .ref a13, .int 0, .int 0, .ref a14, .ref a15, .int 0, .int 0, .int 0, .ref a16, .ref a17, .int 0, .int 0, .int 0, .int 0, .int 0, .ref a18, .int 0, .int 0, .int 0])), (a1, .inl (cI, 5, .inl (fun _ => 0))), (a2, .inl (cI, 30, .inl (fun _ => 0))), (a3, .inl (cI, 150, .inl (fun _ => 0))), (a4, .inl (cI, 25, .inl (fun _ => 0))), (a5, .inl (cI, 600, .inl (fun _ => 0)))] sz)) (va_Qv (fun (_ : Unit) => True) (MB D [(cB, .byte), (cI, .int), (cJ, .long), (cZ, .boolean), (cT, .object RX7), (cR, .object RX3)] [(a0, .inr (10, [.int 0, .ref a6, .ref a7, .ref a8, .ref a9, .ref a10, .int 0, .int 0, .int 0, .int 0, .int 0, .long 0, .int 0, .int 0, .int 0, .int (-1), .ref a1, .ref a2, .ref a3, .ref a4, .ref a5, .ref a11, .ref a12, .ref a13, .int 0, .int 0, .ref a14, .ref a15, .int 0, .int 0, .int 0, .ref a16, .ref a17, .int 0, .int 0, .int 0, .int 0, .int 0, .ref a18, .int 0, .int 0, .int 0])), (a1, .inl (cI, 5, .inl (fun _ => 0))), (a2, .inl (cI, 30, .inl (fun _ => 0))), (a3, .inl (cI, 150, .inl (fun _ => 0))), (a4, .inl (cI, 25, .inl (fun _ => 0))), (a5, .inl (cI, 600, .inl (fun _ => 0)))] sz (fun (u : Unit) => [(a0, .inr (10, [.int 0, .ref a6, .ref a7, .ref a8, .ref a9, .ref a10, .int 0, .int 0, .int 0, .int 0, .int 0, .long 0, .int 0, .int 0, .int 0, .int (-1), .ref a1, .ref a2, .ref a3, .ref a4, .ref a5, .ref a11, .ref a12, .ref a13, .int 0, .int 0, .ref a14, .ref a15, .int 0, .int 0, .int 0, .ref a16, .ref a17, .int 0, .int 0, .int 0, .int 0, .int 0, .ref a18, .int 0, .int 0, .int 0])), (a1, .inl (cI, 5, .inl (fun _ => 0))), (a2, .inl (cI, 30, .inl (fun _ => 0))), (a3, .inl (cI, 150, .inl (fun _ => 0))), (a4, .inl (cI, 25, .inl (fun _ => 0))), (a5, .inl (cI, 600, .inl (fun _ => 0)))])) (va_A [(a0, .inr (10, [.int 0, .ref a6, .ref a7, .ref a8, .ref a9, .ref a10, .int 0, .int 0, .int 0, .int 0, .int 0, .long 0, .int 0, .int 0, .int 0, .int (-1), .ref a1, .ref a2, .ref a3, .ref a4, .ref a5, .ref a11, .ref a12, .ref a13, .int 0, .int 0, .ref a14, .ref a15, .int 0, .int 0, .int 0, .ref a16, .ref a17, .int 0, .int 0, .int 0, .int 0, .int 0, .ref a18, .int 0, .int 0, .int 0])), (a1, .inl (cI, 5, .inl (fun _ => 0))), (a2, .inl (cI, 30, .inl (fun _ => 0))), (a3, .inl (cI, 150, .inl (fun _ => 0))), (a4, .inl (cI, 25, .inl (fun _ => 0))), (a5, .inl (cI, 600, .inl (fun _ => 0)))] sz)) 0 0 (va_A [(a0, .inr (10, [.int 0, .ref a6, .ref a7, .ref a8, .ref a9, .ref a10, .int 0, .int 0, .int 0, .int 0, .int 0, .long 0, .int 0, .int 0, .int 0, .int (-1), .ref a1, .ref a2, .ref a3, .ref a4, .ref a5, .ref a11, .ref a12, .ref a13, .int 0, .int 0, .ref a14, .ref a15, .int 0, .int 0, .int 0, .ref a16, .ref a17, .int 0, .int 0, .int 0, .int 0, .int 0, .ref a18, .int 0, .int 0, .int 0])), (a1, .inl (cI, 5, .inl (fun _ => 0))), (a2, .inl (cI, 30, .inl (fun _ => 0))), (a3, .inl (cI, 150, .inl (fun _ => 0))), (a4, .inl (cI, 25, .inl (fun _ => 0))), (a5, .inl (cI, 600, .inl (fun _ => 0)))] sz) := by
  refine pm (by decide) (Nat.le_of_ble_eq_true rfl) ?_
  intro p e s m below meth c ls hx hb hr hml hown hlk hnm hts hv hl
  have hown : s.vm.findClass RX10 = some m.cls := hown
  have hl : lv_has ls 3 [(0, .ref a0), (1, .int 0), (2, .int 1)] := hl
  obtain ⟨hsz, hP, hK, hD0, hE⟩ := hv
  subst hsz
  have hD := hD0.self (sz := s.heap.size)
  obtain ⟨AA, hAe⟩ : ∃ AA, AA = va_A [(a0, .inr (10, [.int 0, .ref a6, .ref a7, .ref a8, .ref a9, .ref a10, .int 0, .int 0, .int 0, .int 0, .int 0, .long 0, .int 0, .int 0, .int 0, .int (-1), .ref a1, .ref a2, .ref a3, .ref a4, .ref a5, .ref a11, .ref a12, .ref a13, .int 0, .int 0, .ref a14, .ref a15, .int 0, .int 0, .int 0, .ref a16, .ref a17, .int 0, .int 0, .int 0, .int 0, .int 0, .ref a18, .int 0, .int 0, .int 0])), (a1, .inl (cI, 5, .inl (fun _ => 0))), (a2, .inl (cI, 30, .inl (fun _ => 0))), (a3, .inl (cI, 150, .inl (fun _ => 0))), (a4, .inl (cI, 25, .inl (fun _ => 0))), (a5, .inl (cI, 600, .inl (fun _ => 0)))] s.heap.size := ⟨_, rfl⟩
  rw [← hAe] at hD
  have hA : ∀ q : Nat, s.heap.size ≤ q → AA q := fun q h => by rw [hAe]; exact Or.inr h
  have hS : va_S AA s.heap s.heap [] := va_S.rf
  obtain ⟨-, hAOT, hAOR, hAOI⟩ := id hE
  refine lv_aload_n hx hb dX10_copyTown_0 rfl (lv_at hl 0 rfl) ?_
  refine va_get (D := D) (ci := 10) (v := .ref a1) (C := RX10) (T := TX10) (N := 42) hx hb hts (fun w h => uc_in w (inX10 w h)) hown hK hP 0 rfl rfl 16 (by decide) (hts _ (uc_in _ q_f1204)) (fun _ h9 => h9) rfl dX10_copyTown_1 ?_
  refine lv_iconst (v := 1) hx hb dX10_copyTown_4 (by decide) ?_
  refine lv_iload_n hx hb dX10_copyTown_5 rfl (lv_at hl 1 rfl) ?_
  refine lv_iload_n hx hb dX10_copyTown_6 rfl (lv_at hl 2 rfl) ?_
  refine csV (n := 4) (As := [.ref a1, .int 1, .int 0, .int 1]) (rest := []) (wr := [(a0, .inr (10, [.int 0, .ref a6, .ref a7, .ref a8, .ref a9, .ref a10, .int 0, .int 0, .int 0, .int 0, .int 0, .long 0, .int 0, .int 0, .int 0, .int (-1), .ref a1, .ref a2, .ref a3, .ref a4, .ref a5, .ref a11, .ref a12, .ref a13, .int 0, .int 0, .ref a14, .ref a15, .int 0, .int 0, .int 0, .ref a16, .ref a17, .int 0, .int 0, .int 0, .int 0, .int 0, .ref a18, .int 0, .int 0, .int 0])), (a2, .inl (cI, 30, .inl (fun _ => 0))), (a3, .inl (cI, 150, .inl (fun _ => 0))), (a4, .inl (cI, 25, .inl (fun _ => 0))), (a5, .inl (cI, 600, .inl (fun _ => 0)))]) ⟨hx, hb, hml, hown, hts⟩ uc_in (kX10_copyRow_5 l D cB cI cJ cZ cT cR a1 _) q_m1453 q_s1454 q_i11 q_c1455 (by decide +kernel) ⟨(Nat.le_of_ble_eq_true rfl), (Nat.le_of_ble_eq_true rfl)⟩ ⟨(Nat.le_of_ble_eq_true rfl), (Nat.le_of_ble_eq_true rfl)⟩ hE hK hP hD hS hA [1] [0, 2, 3, 4, 5] rfl rfl rfl rfl (by decide) rfl hl.1 rfl (Nat.le_of_ble_eq_true rfl) dX10_copyTown_7 (fun u H locs hpo hP hD hS => ?_)
  have hP : va_P D vwCl [(a0, .inr (10, [.int 0, .ref a6, .ref a7, .ref a8, .ref a9, .ref a10, .int 0, .int 0, .int 0, .int 0, .int 0, .long 0, .int 0, .int 0, .int 0, .int (-1), .ref a1, .ref a2, .ref a3, .ref a4, .ref a5, .ref a11, .ref a12, .ref a13, .int 0, .int 0, .ref a14, .ref a15, .int 0, .int 0, .int 0, .ref a16, .ref a17, .int 0, .int 0, .int 0, .int 0, .int 0, .ref a18, .int 0, .int 0, .int 0])), (a2, .inl (cI, 30, .inl (fun _ => 0))), (a3, .inl (cI, 150, .inl (fun _ => 0))), (a4, .inl (cI, 25, .inl (fun _ => 0))), (a5, .inl (cI, 600, .inl (fun _ => 0))), (a1, .inl (cI, 5, .inl (fun _ => 0)))] H := hP
  have hD : va_D AA [(a0, .inr (10, [.int 0, .ref a6, .ref a7, .ref a8, .ref a9, .ref a10, .int 0, .int 0, .int 0, .int 0, .int 0, .long 0, .int 0, .int 0, .int 0, .int (-1), .ref a1, .ref a2, .ref a3, .ref a4, .ref a5, .ref a11, .ref a12, .ref a13, .int 0, .int 0, .ref a14, .ref a15, .int 0, .int 0, .int 0, .ref a16, .ref a17, .int 0, .int 0, .int 0, .int 0, .int 0, .ref a18, .int 0, .int 0, .int 0])), (a2, .inl (cI, 30, .inl (fun _ => 0))), (a3, .inl (cI, 150, .inl (fun _ => 0))), (a4, .inl (cI, 25, .inl (fun _ => 0))), (a5, .inl (cI, 600, .inl (fun _ => 0))), (a1, .inl (cI, 5, .inl (fun _ => 0)))] := hD
  refine W.cs (cells' := 0) (slots' := 0) rfl rfl ?_
  refine lv_aload_n hx hb dX10_copyTown_10 rfl (lv_at hl 0 rfl) ?_
  refine va_get (D := D) (ci := 10) (v := .ref a2) (C := RX10) (T := TX10) (N := 42) hx hb hts (fun w h => uc_in w (inX10 w h)) hown hK hP 0 rfl rfl 17 (by decide) (hts _ (uc_in _ q_f1205)) (fun _ h9 => h9) rfl dX10_copyTown_11 ?_
  refine lv_bipush (v := 6) hx hb dX10_copyTown_14 (by decide) ?_
  refine lv_iload_n hx hb dX10_copyTown_16 rfl (lv_at hl 1 rfl) ?_
  refine lv_iload_n hx hb dX10_copyTown_17 rfl (lv_at hl 2 rfl) ?_
  refine csV (n := 4) (As := [.ref a2, .int 6, .int 0, .int 1]) (rest := []) (wr := [(a0, .inr (10, [.int 0, .ref a6, .ref a7, .ref a8, .ref a9, .ref a10, .int 0, .int 0, .int 0, .int 0, .int 0, .long 0, .int 0, .int 0, .int 0, .int (-1), .ref a1, .ref a2, .ref a3, .ref a4, .ref a5, .ref a11, .ref a12, .ref a13, .int 0, .int 0, .ref a14, .ref a15, .int 0, .int 0, .int 0, .ref a16, .ref a17, .int 0, .int 0, .int 0, .int 0, .int 0, .ref a18, .int 0, .int 0, .int 0])), (a3, .inl (cI, 150, .inl (fun _ => 0))), (a4, .inl (cI, 25, .inl (fun _ => 0))), (a5, .inl (cI, 600, .inl (fun _ => 0))), (a1, .inl (cI, 5, .inl (fun _ => 0)))]) ⟨hx, hb, hml, hown, hts⟩ uc_in (kX10_copyRow_6 l D cB cI cJ cZ cT cR a2 H.size) q_m1453 q_s1454 q_i11 q_c1455 (by decide +kernel) ⟨(Nat.le_of_ble_eq_true rfl), (Nat.le_of_ble_eq_true rfl)⟩ ⟨(Nat.le_of_ble_eq_true rfl), (Nat.le_of_ble_eq_true rfl)⟩ hE hK hP hD hS hA [1] [0, 2, 3, 4, 5] rfl rfl rfl rfl (by decide) rfl hl.1 rfl (Nat.le_of_ble_eq_true rfl) dX10_copyTown_18 (fun u H locs hpo hP hD hS => ?_)
  have hP : va_P D vwCl [(a0, .inr (10, [.int 0, .ref a6, .ref a7, .ref a8, .ref a9, .ref a10, .int 0, .int 0, .int 0, .int 0, .int 0, .long 0, .int 0, .int 0, .int 0, .int (-1), .ref a1, .ref a2, .ref a3, .ref a4, .ref a5, .ref a11, .ref a12, .ref a13, .int 0, .int 0, .ref a14, .ref a15, .int 0, .int 0, .int 0, .ref a16, .ref a17, .int 0, .int 0, .int 0, .int 0, .int 0, .ref a18, .int 0, .int 0, .int 0])), (a3, .inl (cI, 150, .inl (fun _ => 0))), (a4, .inl (cI, 25, .inl (fun _ => 0))), (a5, .inl (cI, 600, .inl (fun _ => 0))), (a1, .inl (cI, 5, .inl (fun _ => 0))), (a2, .inl (cI, 30, .inl (fun _ => 0)))] H := hP
  have hD : va_D AA [(a0, .inr (10, [.int 0, .ref a6, .ref a7, .ref a8, .ref a9, .ref a10, .int 0, .int 0, .int 0, .int 0, .int 0, .long 0, .int 0, .int 0, .int 0, .int (-1), .ref a1, .ref a2, .ref a3, .ref a4, .ref a5, .ref a11, .ref a12, .ref a13, .int 0, .int 0, .ref a14, .ref a15, .int 0, .int 0, .int 0, .ref a16, .ref a17, .int 0, .int 0, .int 0, .int 0, .int 0, .ref a18, .int 0, .int 0, .int 0])), (a3, .inl (cI, 150, .inl (fun _ => 0))), (a4, .inl (cI, 25, .inl (fun _ => 0))), (a5, .inl (cI, 600, .inl (fun _ => 0))), (a1, .inl (cI, 5, .inl (fun _ => 0))), (a2, .inl (cI, 30, .inl (fun _ => 0)))] := hD
  refine W.cs (cells' := 0) (slots' := 0) rfl rfl ?_
  refine lv_aload_n hx hb dX10_copyTown_21 rfl (lv_at hl 0 rfl) ?_
  refine va_get (D := D) (ci := 10) (v := .ref a3) (C := RX10) (T := TX10) (N := 42) hx hb hts (fun w h => uc_in w (inX10 w h)) hown hK hP 0 rfl rfl 18 (by decide) (hts _ (uc_in _ q_f1206)) (fun _ h9 => h9) rfl dX10_copyTown_22 ?_
  refine lv_bipush (v := 30) hx hb dX10_copyTown_25 (by decide) ?_
  refine lv_iload_n hx hb dX10_copyTown_27 rfl (lv_at hl 1 rfl) ?_
  refine lv_iload_n hx hb dX10_copyTown_28 rfl (lv_at hl 2 rfl) ?_
  refine csV (n := 4) (As := [.ref a3, .int 30, .int 0, .int 1]) (rest := []) (wr := [(a0, .inr (10, [.int 0, .ref a6, .ref a7, .ref a8, .ref a9, .ref a10, .int 0, .int 0, .int 0, .int 0, .int 0, .long 0, .int 0, .int 0, .int 0, .int (-1), .ref a1, .ref a2, .ref a3, .ref a4, .ref a5, .ref a11, .ref a12, .ref a13, .int 0, .int 0, .ref a14, .ref a15, .int 0, .int 0, .int 0, .ref a16, .ref a17, .int 0, .int 0, .int 0, .int 0, .int 0, .ref a18, .int 0, .int 0, .int 0])), (a4, .inl (cI, 25, .inl (fun _ => 0))), (a5, .inl (cI, 600, .inl (fun _ => 0))), (a1, .inl (cI, 5, .inl (fun _ => 0))), (a2, .inl (cI, 30, .inl (fun _ => 0)))]) ⟨hx, hb, hml, hown, hts⟩ uc_in (kX10_copyRow_7 l D cB cI cJ cZ cT cR a3 H.size) q_m1453 q_s1454 q_i11 q_c1455 (by decide +kernel) ⟨(Nat.le_of_ble_eq_true rfl), (Nat.le_of_ble_eq_true rfl)⟩ ⟨(Nat.le_of_ble_eq_true rfl), (Nat.le_of_ble_eq_true rfl)⟩ hE hK hP hD hS hA [1] [0, 2, 3, 4, 5] rfl rfl rfl rfl (by decide) rfl hl.1 rfl (Nat.le_of_ble_eq_true rfl) dX10_copyTown_29 (fun u H locs hpo hP hD hS => ?_)
  have hP : va_P D vwCl [(a0, .inr (10, [.int 0, .ref a6, .ref a7, .ref a8, .ref a9, .ref a10, .int 0, .int 0, .int 0, .int 0, .int 0, .long 0, .int 0, .int 0, .int 0, .int (-1), .ref a1, .ref a2, .ref a3, .ref a4, .ref a5, .ref a11, .ref a12, .ref a13, .int 0, .int 0, .ref a14, .ref a15, .int 0, .int 0, .int 0, .ref a16, .ref a17, .int 0, .int 0, .int 0, .int 0, .int 0, .ref a18, .int 0, .int 0, .int 0])), (a4, .inl (cI, 25, .inl (fun _ => 0))), (a5, .inl (cI, 600, .inl (fun _ => 0))), (a1, .inl (cI, 5, .inl (fun _ => 0))), (a2, .inl (cI, 30, .inl (fun _ => 0))), (a3, .inl (cI, 150, .inl (fun _ => 0)))] H := hP
  have hD : va_D AA [(a0, .inr (10, [.int 0, .ref a6, .ref a7, .ref a8, .ref a9, .ref a10, .int 0, .int 0, .int 0, .int 0, .int 0, .long 0, .int 0, .int 0, .int 0, .int (-1), .ref a1, .ref a2, .ref a3, .ref a4, .ref a5, .ref a11, .ref a12, .ref a13, .int 0, .int 0, .ref a14, .ref a15, .int 0, .int 0, .int 0, .ref a16, .ref a17, .int 0, .int 0, .int 0, .int 0, .int 0, .ref a18, .int 0, .int 0, .int 0])), (a4, .inl (cI, 25, .inl (fun _ => 0))), (a5, .inl (cI, 600, .inl (fun _ => 0))), (a1, .inl (cI, 5, .inl (fun _ => 0))), (a2, .inl (cI, 30, .inl (fun _ => 0))), (a3, .inl (cI, 150, .inl (fun _ => 0)))] := hD
  refine W.cs (cells' := 0) (slots' := 0) rfl rfl ?_
  refine lv_aload_n hx hb dX10_copyTown_32 rfl (lv_at hl 0 rfl) ?_
  refine va_get (D := D) (ci := 10) (v := .ref a4) (C := RX10) (T := TX10) (N := 42) hx hb hts (fun w h => uc_in w (inX10 w h)) hown hK hP 0 rfl rfl 19 (by decide) (hts _ (uc_in _ q_f1207)) (fun _ h9 => h9) rfl dX10_copyTown_33 ?_
  refine lv_iconst (v := 5) hx hb dX10_copyTown_36 (by decide) ?_
  refine lv_iload_n hx hb dX10_copyTown_37 rfl (lv_at hl 1 rfl) ?_
  refine lv_iload_n hx hb dX10_copyTown_38 rfl (lv_at hl 2 rfl) ?_
  refine csV (n := 4) (As := [.ref a4, .int 5, .int 0, .int 1]) (rest := []) (wr := [(a0, .inr (10, [.int 0, .ref a6, .ref a7, .ref a8, .ref a9, .ref a10, .int 0, .int 0, .int 0, .int 0, .int 0, .long 0, .int 0, .int 0, .int 0, .int (-1), .ref a1, .ref a2, .ref a3, .ref a4, .ref a5, .ref a11, .ref a12, .ref a13, .int 0, .int 0, .ref a14, .ref a15, .int 0, .int 0, .int 0, .ref a16, .ref a17, .int 0, .int 0, .int 0, .int 0, .int 0, .ref a18, .int 0, .int 0, .int 0])), (a5, .inl (cI, 600, .inl (fun _ => 0))), (a1, .inl (cI, 5, .inl (fun _ => 0))), (a2, .inl (cI, 30, .inl (fun _ => 0))), (a3, .inl (cI, 150, .inl (fun _ => 0)))]) ⟨hx, hb, hml, hown, hts⟩ uc_in (kX10_copyRow_8 l D cB cI cJ cZ cT cR a4 H.size) q_m1453 q_s1454 q_i11 q_c1455 (by decide +kernel) ⟨(Nat.le_of_ble_eq_true rfl), (Nat.le_of_ble_eq_true rfl)⟩ ⟨(Nat.le_of_ble_eq_true rfl), (Nat.le_of_ble_eq_true rfl)⟩ hE hK hP hD hS hA [1] [0, 2, 3, 4, 5] rfl rfl rfl rfl (by decide) rfl hl.1 rfl (Nat.le_of_ble_eq_true rfl) dX10_copyTown_39 (fun u H locs hpo hP hD hS => ?_)
  have hP : va_P D vwCl [(a0, .inr (10, [.int 0, .ref a6, .ref a7, .ref a8, .ref a9, .ref a10, .int 0, .int 0, .int 0, .int 0, .int 0, .long 0, .int 0, .int 0, .int 0, .int (-1), .ref a1, .ref a2, .ref a3, .ref a4, .ref a5, .ref a11, .ref a12, .ref a13, .int 0, .int 0, .ref a14, .ref a15, .int 0, .int 0, .int 0, .ref a16, .ref a17, .int 0, .int 0, .int 0, .int 0, .int 0, .ref a18, .int 0, .int 0, .int 0])), (a5, .inl (cI, 600, .inl (fun _ => 0))), (a1, .inl (cI, 5, .inl (fun _ => 0))), (a2, .inl (cI, 30, .inl (fun _ => 0))), (a3, .inl (cI, 150, .inl (fun _ => 0))), (a4, .inl (cI, 25, .inl (fun _ => 0)))] H := hP
  have hD : va_D AA [(a0, .inr (10, [.int 0, .ref a6, .ref a7, .ref a8, .ref a9, .ref a10, .int 0, .int 0, .int 0, .int 0, .int 0, .long 0, .int 0, .int 0, .int 0, .int (-1), .ref a1, .ref a2, .ref a3, .ref a4, .ref a5, .ref a11, .ref a12, .ref a13, .int 0, .int 0, .ref a14, .ref a15, .int 0, .int 0, .int 0, .ref a16, .ref a17, .int 0, .int 0, .int 0, .int 0, .int 0, .ref a18, .int 0, .int 0, .int 0])), (a5, .inl (cI, 600, .inl (fun _ => 0))), (a1, .inl (cI, 5, .inl (fun _ => 0))), (a2, .inl (cI, 30, .inl (fun _ => 0))), (a3, .inl (cI, 150, .inl (fun _ => 0))), (a4, .inl (cI, 25, .inl (fun _ => 0)))] := hD
  refine W.cs (cells' := 0) (slots' := 0) rfl rfl ?_
  refine lv_aload_n hx hb dX10_copyTown_42 rfl (lv_at hl 0 rfl) ?_
  refine va_get (D := D) (ci := 10) (v := .ref a5) (C := RX10) (T := TX10) (N := 42) hx hb hts (fun w h => uc_in w (inX10 w h)) hown hK hP 0 rfl rfl 20 (by decide) (hts _ (uc_in _ q_f1208)) (fun _ h9 => h9) rfl dX10_copyTown_43 ?_
  refine lv_bipush (v := 120) hx hb dX10_copyTown_46 (by decide) ?_
  refine lv_iload_n hx hb dX10_copyTown_48 rfl (lv_at hl 1 rfl) ?_
  refine lv_iload_n hx hb dX10_copyTown_49 rfl (lv_at hl 2 rfl) ?_
  refine csV (n := 4) (As := [.ref a5, .int 120, .int 0, .int 1]) (rest := []) (wr := [(a0, .inr (10, [.int 0, .ref a6, .ref a7, .ref a8, .ref a9, .ref a10, .int 0, .int 0, .int 0, .int 0, .int 0, .long 0, .int 0, .int 0, .int 0, .int (-1), .ref a1, .ref a2, .ref a3, .ref a4, .ref a5, .ref a11, .ref a12, .ref a13, .int 0, .int 0, .ref a14, .ref a15, .int 0, .int 0, .int 0, .ref a16, .ref a17, .int 0, .int 0, .int 0, .int 0, .int 0, .ref a18, .int 0, .int 0, .int 0])), (a1, .inl (cI, 5, .inl (fun _ => 0))), (a2, .inl (cI, 30, .inl (fun _ => 0))), (a3, .inl (cI, 150, .inl (fun _ => 0))), (a4, .inl (cI, 25, .inl (fun _ => 0)))]) ⟨hx, hb, hml, hown, hts⟩ uc_in (kX10_copyRow_9 l D cB cI cJ cZ cT cR a5 H.size) q_m1453 q_s1454 q_i11 q_c1455 (by decide +kernel) ⟨(Nat.le_of_ble_eq_true rfl), (Nat.le_of_ble_eq_true rfl)⟩ ⟨(Nat.le_of_ble_eq_true rfl), (Nat.le_of_ble_eq_true rfl)⟩ hE hK hP hD hS hA [1] [0, 2, 3, 4, 5] rfl rfl rfl rfl (by decide) rfl hl.1 rfl (Nat.le_of_ble_eq_true rfl) dX10_copyTown_50 (fun u H locs hpo hP hD hS => ?_)
  have hP : va_P D vwCl [(a0, .inr (10, [.int 0, .ref a6, .ref a7, .ref a8, .ref a9, .ref a10, .int 0, .int 0, .int 0, .int 0, .int 0, .long 0, .int 0, .int 0, .int 0, .int (-1), .ref a1, .ref a2, .ref a3, .ref a4, .ref a5, .ref a11, .ref a12, .ref a13, .int 0, .int 0, .ref a14, .ref a15, .int 0, .int 0, .int 0, .ref a16, .ref a17, .int 0, .int 0, .int 0, .int 0, .int 0, .ref a18, .int 0, .int 0, .int 0])), (a1, .inl (cI, 5, .inl (fun _ => 0))), (a2, .inl (cI, 30, .inl (fun _ => 0))), (a3, .inl (cI, 150, .inl (fun _ => 0))), (a4, .inl (cI, 25, .inl (fun _ => 0))), (a5, .inl (cI, 600, .inl (fun _ => 0)))] H := hP
  have hD : va_D AA [(a0, .inr (10, [.int 0, .ref a6, .ref a7, .ref a8, .ref a9, .ref a10, .int 0, .int 0, .int 0, .int 0, .int 0, .long 0, .int 0, .int 0, .int 0, .int (-1), .ref a1, .ref a2, .ref a3, .ref a4, .ref a5, .ref a11, .ref a12, .ref a13, .int 0, .int 0, .ref a14, .ref a15, .int 0, .int 0, .int 0, .ref a16, .ref a17, .int 0, .int 0, .int 0, .int 0, .int 0, .ref a18, .int 0, .int 0, .int 0])), (a1, .inl (cI, 5, .inl (fun _ => 0))), (a2, .inl (cI, 30, .inl (fun _ => 0))), (a3, .inl (cI, 150, .inl (fun _ => 0))), (a4, .inl (cI, 25, .inl (fun _ => 0))), (a5, .inl (cI, 600, .inl (fun _ => 0)))] := hD
  refine W.cs (cells' := 0) (slots' := 0) rfl rfl ?_
  have hD8 : va_D (va_A [(a0, .inr (10, [.int 0, .ref a6, .ref a7, .ref a8, .ref a9, .ref a10, .int 0, .int 0, .int 0, .int 0, .int 0, .long 0, .int 0, .int 0, .int 0, .int (-1), .ref a1, .ref a2, .ref a3, .ref a4, .ref a5, .ref a11, .ref a12, .ref a13, .int 0, .int 0, .ref a14, .ref a15, .int 0, .int 0, .int 0, .ref a16, .ref a17, .int 0, .int 0, .int 0, .int 0, .int 0, .ref a18, .int 0, .int 0, .int 0])), (a1, .inl (cI, 5, .inl (fun _ => 0))), (a2, .inl (cI, 30, .inl (fun _ => 0))), (a3, .inl (cI, 150, .inl (fun _ => 0))), (a4, .inl (cI, 25, .inl (fun _ => 0))), (a5, .inl (cI, 600, .inl (fun _ => 0)))] s.heap.size) [(a0, .inr (10, [.int 0, .ref a6, .ref a7, .ref a8, .ref a9, .ref a10, .int 0, .int 0, .int 0, .int 0, .int 0, .long 0, .int 0, .int 0, .int 0, .int (-1), .ref a1, .ref a2, .ref a3, .ref a4, .ref a5, .ref a11, .ref a12, .ref a13, .int 0, .int 0, .ref a14, .ref a15, .int 0, .int 0, .int 0, .ref a16, .ref a17, .int 0, .int 0, .int 0, .int 0, .int 0, .ref a18, .int 0, .int 0, .int 0])), (a1, .inl (cI, 5, .inl (fun _ => 0))), (a2, .inl (cI, 30, .inl (fun _ => 0))), (a3, .inl (cI, 150, .inl (fun _ => 0))), (a4, .inl (cI, 25, .inl (fun _ => 0))), (a5, .inl (cI, 600, .inl (fun _ => 0)))] := by rw [← hAe]; exact hD
  have hS8 : va_S (va_A [(a0, .inr (10, [.int 0, .ref a6, .ref a7, .ref a8, .ref a9, .ref a10, .int 0, .int 0, .int 0, .int 0, .int 0, .long 0, .int 0, .int 0, .int 0, .int (-1), .ref a1, .ref a2, .ref a3, .ref a4, .ref a5, .ref a11, .ref a12, .ref a13, .int 0, .int 0, .ref a14, .ref a15, .int 0, .int 0, .int 0, .ref a16, .ref a17, .int 0, .int 0, .int 0, .int 0, .int 0, .ref a18, .int 0, .int 0, .int 0])), (a1, .inl (cI, 5, .inl (fun _ => 0))), (a2, .inl (cI, 30, .inl (fun _ => 0))), (a3, .inl (cI, 150, .inl (fun _ => 0))), (a4, .inl (cI, 25, .inl (fun _ => 0))), (a5, .inl (cI, 600, .inl (fun _ => 0)))] s.heap.size) s.heap H locs := by rw [← hAe]; exact hS
  have hP9 := hP.sub (ws' := [(a0, .inr (10, [.int 0, .ref a6, .ref a7, .ref a8, .ref a9, .ref a10, .int 0, .int 0, .int 0, .int 0, .int 0, .long 0, .int 0, .int 0, .int 0, .int (-1), .ref a1, .ref a2, .ref a3, .ref a4, .ref a5, .ref a11, .ref a12, .ref a13, .int 0, .int 0, .ref a14, .ref a15, .int 0, .int 0, .int 0, .ref a16, .ref a17, .int 0, .int 0, .int 0, .int 0, .int 0, .ref a18, .int 0, .int 0, .int 0])), (a1, .inl (cI, 5, .inl (fun _ => 0))), (a2, .inl (cI, 30, .inl (fun _ => 0))), (a3, .inl (cI, 150, .inl (fun _ => 0))), (a4, .inl (cI, 25, .inl (fun _ => 0))), (a5, .inl (cI, 600, .inl (fun _ => 0)))]) [0, 1, 2, 3, 4, 5] rfl
  have hD9 := hD8.sub (ws' := [(a0, .inr (10, [.int 0, .ref a6, .ref a7, .ref a8, .ref a9, .ref a10, .int 0, .int 0, .int 0, .int 0, .int 0, .long 0, .int 0, .int 0, .int 0, .int (-1), .ref a1, .ref a2, .ref a3, .ref a4, .ref a5, .ref a11, .ref a12, .ref a13, .int 0, .int 0, .ref a14, .ref a15, .int 0, .int 0, .int 0, .ref a16, .ref a17, .int 0, .int 0, .int 0, .int 0, .int 0, .ref a18, .int 0, .int 0, .int 0])), (a1, .inl (cI, 5, .inl (fun _ => 0))), (a2, .inl (cI, 30, .inl (fun _ => 0))), (a3, .inl (cI, 150, .inl (fun _ => 0))), (a4, .inl (cI, 25, .inl (fun _ => 0))), (a5, .inl (cI, 600, .inl (fun _ => 0)))]) [0, 1, 2, 3, 4, 5] rfl rfl
  exact W.vret hx hb hr (fun t ht hW => ⟨⟨(), rfl, trivial, by rw [ht]; exact hP9, va_K.moved hW.alike hK, hD9⟩, hS8.F ht⟩) hS8.2.2 dX10_copyTown_53
set_option maxHeartbeats 4000000 in
set_option maxRecDepth 100000 in
theorem kX10_image_0 (l : Launch) (D : va_G) (cB cI cJ cZ cT cR : ClassId) (a0 a1 a2 a3 a4 a5 a6 a7 a8 a9 a10 a11 a12 a13 a14 a15 a16 a17 a18 : Nat) (sz : Nat) : Met l yX10_image (uc yX10_image cX10_image 2 (some .int)) (rmL 3 0 0) (va_Pc [.ref a0, .int 0] (MPre D [(cB, .byte), (cI, .int), (cJ, .long), (cZ, .boolean), (cT, .object RX7), (cR, .object RX3)] [(a0, .inr (10, [.int 0, .ref a7, .ref a8, .ref a9, .ref a10, .ref a11, .int 0, .int 0, .int 0, .int 0, .int 0, .long 0, .int 0, .int 0, .int 0, .int (-1), .ref a1, .ref a2, .ref a3, .ref a4, .ref a5, .ref a6, .ref a12, .ref a13, .int 0, .int 0, .ref a14, .ref a15, .int 0, .int 0, .int 0, .ref a16, .ref a17, .int 0, .int 0, .int 0, .int 0, .int 0, .ref a18, .int 0, .int 0, .int 0])), (a1, .inl (cI, 5, .inl (fun _ => 0))), (a2, .inl (cI, 30, .inl (fun _ => 0))), (a3, .inl (cI, 150, .inl (fun _ => 0))), (a4, .inl (cI, 25, .inl (fun _ => 0))), (a5, .inl (cI, 600, .inl (fun _ => 0))), (a6, .inl (cZ, 3, .inl (fun _ => 0)))] sz)) (va_Qi (fun (r : Int32) (_ : (Nat → Int32)) => r = 0) (MB D [(cB, .byte), (cI, .int), (cJ, .long), (cZ, .boolean), (cT, .object RX7), (cR, .object RX3)] [(a0, .inr (10, [.int 0, .ref a7, .ref a8, .ref a9, .ref a10, .ref a11, .int 0, .int 0, .int 0, .int 0, .int 0, .long 0, .int 0, .int 0, .int 0, .int (-1), .ref a1, .ref a2, .ref a3, .ref a4, .ref a5, .ref a6, .ref a12, .ref a13, .int 0, .int 0, .ref a14, .ref a15, .int 0, .int 0, .int 0, .ref a16, .ref a17, .int 0, .int 0, .int 0, .int 0, .int 0, .ref a18, .int 0, .int 0, .int 0])), (a1, .inl (cI, 5, .inl (fun _ => 0))), (a2, .inl (cI, 30, .inl (fun _ => 0))), (a3, .inl (cI, 150, .inl (fun _ => 0))), (a4, .inl (cI, 25, .inl (fun _ => 0))), (a5, .inl (cI, 600, .inl (fun _ => 0))), (a6, .inl (cZ, 3, .inl (fun _ => 0)))] sz (fun (u : (Nat → Int32)) => [(a6, .inl (cZ, 3, .inl u)), (a0, .inr (10, [.int 0, .ref a7, .ref a8, .ref a9, .ref a10, .ref a11, .int 0, .int 0, .int 0, .int 0, .int 0, .long 0, .int 0, .int 0, .int 0, .int (-1), .ref a1, .ref a2, .ref a3, .ref a4, .ref a5, .ref a6, .ref a12, .ref a13, .int 0, .int 0, .ref a14, .ref a15, .int 0, .int 0, .int 0, .ref a16, .ref a17, .int 0, .int 0, .int 0, .int 0, .int 0, .ref a18, .int 0, .int 0, .int 0])), (a1, .inl (cI, 5, .inl (fun _ => 0))), (a2, .inl (cI, 30, .inl (fun _ => 0))), (a3, .inl (cI, 150, .inl (fun _ => 0))), (a4, .inl (cI, 25, .inl (fun _ => 0))), (a5, .inl (cI, 600, .inl (fun _ => 0)))])) (va_A [(a0, .inr (10, [.int 0, .ref a7, .ref a8, .ref a9, .ref a10, .ref a11, .int 0, .int 0, .int 0, .int 0, .int 0, .long 0, .int 0, .int 0, .int 0, .int (-1), .ref a1, .ref a2, .ref a3, .ref a4, .ref a5, .ref a6, .ref a12, .ref a13, .int 0, .int 0, .ref a14, .ref a15, .int 0, .int 0, .int 0, .ref a16, .ref a17, .int 0, .int 0, .int 0, .int 0, .int 0, .ref a18, .int 0, .int 0, .int 0])), (a1, .inl (cI, 5, .inl (fun _ => 0))), (a2, .inl (cI, 30, .inl (fun _ => 0))), (a3, .inl (cI, 150, .inl (fun _ => 0))), (a4, .inl (cI, 25, .inl (fun _ => 0))), (a5, .inl (cI, 600, .inl (fun _ => 0))), (a6, .inl (cZ, 3, .inl (fun _ => 0)))] sz)) 0 0 (va_A [(a0, .inr (10, [.int 0, .ref a7, .ref a8, .ref a9, .ref a10, .ref a11, .int 0, .int 0, .int 0, .int 0, .int 0, .long 0, .int 0, .int 0, .int 0, .int (-1), .ref a1, .ref a2, .ref a3, .ref a4, .ref a5, .ref a6, .ref a12, .ref a13, .int 0, .int 0, .ref a14, .ref a15, .int 0, .int 0, .int 0, .ref a16, .ref a17, .int 0, .int 0, .int 0, .int 0, .int 0, .ref a18, .int 0, .int 0, .int 0])), (a1, .inl (cI, 5, .inl (fun _ => 0))), (a2, .inl (cI, 30, .inl (fun _ => 0))), (a3, .inl (cI, 150, .inl (fun _ => 0))), (a4, .inl (cI, 25, .inl (fun _ => 0))), (a5, .inl (cI, 600, .inl (fun _ => 0))), (a6, .inl (cZ, 3, .inl (fun _ => 0)))] sz) := by
  refine pm (by decide) (Nat.le_of_ble_eq_true rfl) ?_
  intro p e s m below meth c ls hx hb hr hml hown hlk hnm hts hv hl
  have hown : s.vm.findClass RX10 = some m.cls := hown
  have hl : lv_has ls 2 [(0, .ref a0), (1, .int 0)] := hl
  obtain ⟨hsz, hP, hK, hD0, hE⟩ := hv
  subst hsz
  have hD := hD0.self (sz := s.heap.size)
  obtain ⟨AA, hAe⟩ : ∃ AA, AA = va_A [(a0, .inr (10, [.int 0, .ref a7, .ref a8, .ref a9, .ref a10, .ref a11, .int 0, .int 0, .int 0, .int 0, .int 0, .long 0, .int 0, .int 0, .int 0, .int (-1), .ref a1, .ref a2, .ref a3, .ref a4, .ref a5, .ref a6, .ref a12, .ref a13, .int 0, .int 0, .ref a14, .ref a15, .int 0, .int 0, .int 0, .ref a16, .ref a17, .int 0, .int 0, .int 0, .int 0, .int 0, .ref a18, .int 0, .int 0, .int 0])), (a1, .inl (cI, 5, .inl (fun _ => 0))), (a2, .inl (cI, 30, .inl (fun _ => 0))), (a3, .inl (cI, 150, .inl (fun _ => 0))), (a4, .inl (cI, 25, .inl (fun _ => 0))), (a5, .inl (cI, 600, .inl (fun _ => 0))), (a6, .inl (cZ, 3, .inl (fun _ => 0)))] s.heap.size := ⟨_, rfl⟩
  rw [← hAe] at hD
  have hA : ∀ q : Nat, s.heap.size ≤ q → AA q := fun q h => by rw [hAe]; exact Or.inr h
  have hS : va_S AA s.heap s.heap [] := va_S.rf
  obtain ⟨-, hAOT, hAOR, hAOI⟩ := id hE
  refine lv_aload_n hx hb dX10_image_0 rfl (lv_at hl 0 rfl) ?_
  refine lv_iconst (v := 0) hx hb dX10_image_1 (by decide) ?_
  refine va_put (D := D) (ci := 10) (v := .int 0) (ty := .int) (C := RX10) (T := TX10) (N := 42) hx hb hts (fun w h => uc_in w (inX10 w h)) tyX10 tyX10_ok nmX10 hown hK hP hD hS 0 rfl rfl 0 (by decide) (hts _ (uc_in _ q_f1188)) (fun _ h9 => h9) rfl (by decide +kernel) rfl rfl (Nat.le_of_ble_eq_true rfl) dX10_image_2 (fun H locs hP hD hS => ?_)
  have hP : va_P D vwCl [(a0, .inr (10, [.int 0, .ref a7, .ref a8, .ref a9, .ref a10, .ref a11, .int 0, .int 0, .int 0, .int 0, .int 0, .long 0, .int 0, .int 0, .int 0, .int (-1), .ref a1, .ref a2, .ref a3, .ref a4, .ref a5, .ref a6, .ref a12, .ref a13, .int 0, .int 0, .ref a14, .ref a15, .int 0, .int 0, .int 0, .ref a16, .ref a17, .int 0, .int 0, .int 0, .int 0, .int 0, .ref a18, .int 0, .int 0, .int 0])), (a1, .inl (cI, 5, .inl (fun _ => 0))), (a2, .inl (cI, 30, .inl (fun _ => 0))), (a3, .inl (cI, 150, .inl (fun _ => 0))), (a4, .inl (cI, 25, .inl (fun _ => 0))), (a5, .inl (cI, 600, .inl (fun _ => 0))), (a6, .inl (cZ, 3, .inl (fun _ => 0)))] H := hP
  have hD : va_D AA [(a0, .inr (10, [.int 0, .ref a7, .ref a8, .ref a9, .ref a10, .ref a11, .int 0, .int 0, .int 0, .int 0, .int 0, .long 0, .int 0, .int 0, .int 0, .int (-1), .ref a1, .ref a2, .ref a3, .ref a4, .ref a5, .ref a6, .ref a12, .ref a13, .int 0, .int 0, .ref a14, .ref a15, .int 0, .int 0, .int 0, .ref a16, .ref a17, .int 0, .int 0, .int 0, .int 0, .int 0, .ref a18, .int 0, .int 0, .int 0])), (a1, .inl (cI, 5, .inl (fun _ => 0))), (a2, .inl (cI, 30, .inl (fun _ => 0))), (a3, .inl (cI, 150, .inl (fun _ => 0))), (a4, .inl (cI, 25, .inl (fun _ => 0))), (a5, .inl (cI, 600, .inl (fun _ => 0))), (a6, .inl (cZ, 3, .inl (fun _ => 0)))] := hD
  refine lv_iload_n hx hb dX10_image_5 rfl (lv_at hl 1 rfl) ?_
  refine lv_i2l (v := 0) hx hb dX10_image_6 (by decide) ?_
  refine lv_lconst (v := 0) hx hb dX10_image_7 (by decide) ?_
  refine lv_ldc2 (v := 2) hx hb hown (hts _ (uc_in _ q_k1909)) dX10_image_8 ?_
  refine csR (n := 3) (As := [.long 0, .long 0, .long 2]) (rest := []) ⟨hx, hb, hml, hown, hts⟩ uc_in (k_in l D [(cB, .byte), (cI, .int), (cJ, .long), (cZ, .boolean), (cT, .object RX7), (cR, .object RX3)] 0 0 2 1 (if_pos (by decide)).symm) q_m1324 q_s1325 q_i11 q_c1326 (by decide +kernel) ⟨(Nat.le_of_ble_eq_true rfl), (Nat.le_of_ble_eq_true rfl)⟩ ⟨(Nat.le_of_ble_eq_true rfl), (Nat.le_of_ble_eq_true rfl)⟩ hK (hP.sub (ws' := []) [] rfl) rfl hl.1 rfl (Nat.le_of_ble_eq_true rfl) dX10_image_11 ?_
  refine lv_if_ne (tgt := 20) hx hb dX10_image_14 (by decide) (fun _ => ?_) (fun c9 => absurd c9 (by decide))
  refine lv_aload_n hx hb dX10_image_20 rfl (lv_at hl 0 rfl) ?_
  refine lv_iconst (v := 0) hx hb dX10_image_21 (by decide) ?_
  refine lv_iconst (v := 1) hx hb dX10_image_22 (by decide) ?_
  refine lv_iload_n hx hb dX10_image_23 rfl (lv_at hl 1 rfl) ?_
  refine lv_iadd hx hb dX10_image_24 ?_
  refine pv_i (v := 1) (by decide) ?_
  refine cvV (n := 2) (As := [.int 0, .int 1]) (rest := []) (wr := [(a6, .inl (cZ, 3, .inl (fun _ => 0)))]) ⟨hx, hb, hml, hown, hts⟩ uc_in (kX10_copyTown_1 l D cB cI cJ cZ cT cR a0 a1 a2 a3 a4 a5 a7 a8 a9 a10 a11 a6 a12 a13 a14 a15 a16 a17 a18 H.size) q_m1449 q_n1451 q_p70 q_i11 q_c1452 (by decide +kernel) ⟨(Nat.le_of_ble_eq_true rfl), (Nat.le_of_ble_eq_true rfl)⟩ ⟨(Nat.le_of_ble_eq_true rfl), (Nat.le_of_ble_eq_true rfl)⟩ hE hK hP hD hS hA [0, 1, 2, 3, 4, 5] [6] rfl rfl rfl rfl (by decide) 10 0 rfl rfl rfl hl.1 rfl (Nat.le_of_ble_eq_true rfl) dX10_image_25 (fun u H locs hpo hP hD hS => ?_)
  have hP : va_P D vwCl [(a6, .inl (cZ, 3, .inl (fun _ => 0))), (a0, .inr (10, [.int 0, .ref a7, .ref a8, .ref a9, .ref a10, .ref a11, .int 0, .int 0, .int 0, .int 0, .int 0, .long 0, .int 0, .int 0, .int 0, .int (-1), .ref a1, .ref a2, .ref a3, .ref a4, .ref a5, .ref a6, .ref a12, .ref a13, .int 0, .int 0, .ref a14, .ref a15, .int 0, .int 0, .int 0, .ref a16, .ref a17, .int 0, .int 0, .int 0, .int 0, .int 0, .ref a18, .int 0, .int 0, .int 0])), (a1, .inl (cI, 5, .inl (fun _ => 0))), (a2, .inl (cI, 30, .inl (fun _ => 0))), (a3, .inl (cI, 150, .inl (fun _ => 0))), (a4, .inl (cI, 25, .inl (fun _ => 0))), (a5, .inl (cI, 600, .inl (fun _ => 0)))] H := hP
  have hD : va_D AA [(a6, .inl (cZ, 3, .inl (fun _ => 0))), (a0, .inr (10, [.int 0, .ref a7, .ref a8, .ref a9, .ref a10, .ref a11, .int 0, .int 0, .int 0, .int 0, .int 0, .long 0, .int 0, .int 0, .int 0, .int (-1), .ref a1, .ref a2, .ref a3, .ref a4, .ref a5, .ref a6, .ref a12, .ref a13, .int 0, .int 0, .ref a14, .ref a15, .int 0, .int 0, .int 0, .ref a16, .ref a17, .int 0, .int 0, .int 0, .int 0, .int 0, .ref a18, .int 0, .int 0, .int 0])), (a1, .inl (cI, 5, .inl (fun _ => 0))), (a2, .inl (cI, 30, .inl (fun _ => 0))), (a3, .inl (cI, 150, .inl (fun _ => 0))), (a4, .inl (cI, 25, .inl (fun _ => 0))), (a5, .inl (cI, 600, .inl (fun _ => 0)))] := hD
  refine W.cs (cells' := 0) (slots' := 0) rfl rfl ?_
  refine lv_aload_n hx hb dX10_image_28 rfl (lv_at hl 0 rfl) ?_
  refine va_get (D := D) (ci := 10) (v := .ref a6) (C := RX10) (T := TX10) (N := 42) hx hb hts (fun w h => uc_in w (inX10 w h)) hown hK hP 1 rfl rfl 21 (by decide) (hts _ (uc_in _ q_f1209)) (fun _ h9 => h9) rfl dX10_image_29 ?_
  refine lv_iload_n hx hb dX10_image_32 rfl (lv_at hl 1 rfl) ?_
  refine lv_iconst (v := 1) hx hb dX10_image_33 (by decide) ?_
  refine va_zast hx hb hK hP hD hS 0 3 rfl rfl (vp_in_iff.mpr ⟨by decide, by decide⟩) dX10_image_34 (fun H locs hP hD hS => ?_)
  obtain ⟨f1, ef1⟩ : ∃ f9, f9 = upd (fun _ => 0) (Int32.toNatClampNeg 0) (vp_nar .boolean 1) := ⟨_, rfl⟩
  rw [← ef1] at hP hD
  have hP : va_P D vwCl [(a6, .inl (cZ, 3, .inl f1)), (a0, .inr (10, [.int 0, .ref a7, .ref a8, .ref a9, .ref a10, .ref a11, .int 0, .int 0, .int 0, .int 0, .int 0, .long 0, .int 0, .int 0, .int 0, .int (-1), .ref a1, .ref a2, .ref a3, .ref a4, .ref a5, .ref a6, .ref a12, .ref a13, .int 0, .int 0, .ref a14, .ref a15, .int 0, .int 0, .int 0, .ref a16, .ref a17, .int 0, .int 0, .int 0, .int 0, .int 0, .ref a18, .int 0, .int 0, .int 0])), (a1, .inl (cI, 5, .inl (fun _ => 0))), (a2, .inl (cI, 30, .inl (fun _ => 0))), (a3, .inl (cI, 150, .inl (fun _ => 0))), (a4, .inl (cI, 25, .inl (fun _ => 0))), (a5, .inl (cI, 600, .inl (fun _ => 0)))] H := hP
  have hD : va_D AA [(a6, .inl (cZ, 3, .inl f1)), (a0, .inr (10, [.int 0, .ref a7, .ref a8, .ref a9, .ref a10, .ref a11, .int 0, .int 0, .int 0, .int 0, .int 0, .long 0, .int 0, .int 0, .int 0, .int (-1), .ref a1, .ref a2, .ref a3, .ref a4, .ref a5, .ref a6, .ref a12, .ref a13, .int 0, .int 0, .ref a14, .ref a15, .int 0, .int 0, .int 0, .ref a16, .ref a17, .int 0, .int 0, .int 0, .int 0, .int 0, .ref a18, .int 0, .int 0, .int 0])), (a1, .inl (cI, 5, .inl (fun _ => 0))), (a2, .inl (cI, 30, .inl (fun _ => 0))), (a3, .inl (cI, 150, .inl (fun _ => 0))), (a4, .inl (cI, 25, .inl (fun _ => 0))), (a5, .inl (cI, 600, .inl (fun _ => 0)))] := hD
  refine lv_iconst (v := 0) hx hb dX10_image_35 (by decide) ?_
  have hD8 : va_D (va_A [(a0, .inr (10, [.int 0, .ref a7, .ref a8, .ref a9, .ref a10, .ref a11, .int 0, .int 0, .int 0, .int 0, .int 0, .long 0, .int 0, .int 0, .int 0, .int (-1), .ref a1, .ref a2, .ref a3, .ref a4, .ref a5, .ref a6, .ref a12, .ref a13, .int 0, .int 0, .ref a14, .ref a15, .int 0, .int 0, .int 0, .ref a16, .ref a17, .int 0, .int 0, .int 0, .int 0, .int 0, .ref a18, .int 0, .int 0, .int 0])), (a1, .inl (cI, 5, .inl (fun _ => 0))), (a2, .inl (cI, 30, .inl (fun _ => 0))), (a3, .inl (cI, 150, .inl (fun _ => 0))), (a4, .inl (cI, 25, .inl (fun _ => 0))), (a5, .inl (cI, 600, .inl (fun _ => 0))), (a6, .inl (cZ, 3, .inl (fun _ => 0)))] s.heap.size) [(a6, .inl (cZ, 3, .inl f1)), (a0, .inr (10, [.int 0, .ref a7, .ref a8, .ref a9, .ref a10, .ref a11, .int 0, .int 0, .int 0, .int 0, .int 0, .long 0, .int 0, .int 0, .int 0, .int (-1), .ref a1, .ref a2, .ref a3, .ref a4, .ref a5, .ref a6, .ref a12, .ref a13, .int 0, .int 0, .ref a14, .ref a15, .int 0, .int 0, .int 0, .ref a16, .ref a17, .int 0, .int 0, .int 0, .int 0, .int 0, .ref a18, .int 0, .int 0, .int 0])), (a1, .inl (cI, 5, .inl (fun _ => 0))), (a2, .inl (cI, 30, .inl (fun _ => 0))), (a3, .inl (cI, 150, .inl (fun _ => 0))), (a4, .inl (cI, 25, .inl (fun _ => 0))), (a5, .inl (cI, 600, .inl (fun _ => 0)))] := by rw [← hAe]; exact hD
  have hS8 : va_S (va_A [(a0, .inr (10, [.int 0, .ref a7, .ref a8, .ref a9, .ref a10, .ref a11, .int 0, .int 0, .int 0, .int 0, .int 0, .long 0, .int 0, .int 0, .int 0, .int (-1), .ref a1, .ref a2, .ref a3, .ref a4, .ref a5, .ref a6, .ref a12, .ref a13, .int 0, .int 0, .ref a14, .ref a15, .int 0, .int 0, .int 0, .ref a16, .ref a17, .int 0, .int 0, .int 0, .int 0, .int 0, .ref a18, .int 0, .int 0, .int 0])), (a1, .inl (cI, 5, .inl (fun _ => 0))), (a2, .inl (cI, 30, .inl (fun _ => 0))), (a3, .inl (cI, 150, .inl (fun _ => 0))), (a4, .inl (cI, 25, .inl (fun _ => 0))), (a5, .inl (cI, 600, .inl (fun _ => 0))), (a6, .inl (cZ, 3, .inl (fun _ => 0)))] s.heap.size) s.heap H locs := by rw [← hAe]; exact hS
  have hP9 := hP.sub (ws' := [(a6, .inl (cZ, 3, .inl f1)), (a0, .inr (10, [.int 0, .ref a7, .ref a8, .ref a9, .ref a10, .ref a11, .int 0, .int 0, .int 0, .int 0, .int 0, .long 0, .int 0, .int 0, .int 0, .int (-1), .ref a1, .ref a2, .ref a3, .ref a4, .ref a5, .ref a6, .ref a12, .ref a13, .int 0, .int 0, .ref a14, .ref a15, .int 0, .int 0, .int 0, .ref a16, .ref a17, .int 0, .int 0, .int 0, .int 0, .int 0, .ref a18, .int 0, .int 0, .int 0])), (a1, .inl (cI, 5, .inl (fun _ => 0))), (a2, .inl (cI, 30, .inl (fun _ => 0))), (a3, .inl (cI, 150, .inl (fun _ => 0))), (a4, .inl (cI, 25, .inl (fun _ => 0))), (a5, .inl (cI, 600, .inl (fun _ => 0)))]) [0, 1, 2, 3, 4, 5, 6] rfl
  have hD9 := hD8.sub (ws' := [(a6, .inl (cZ, 3, .inl f1)), (a0, .inr (10, [.int 0, .ref a7, .ref a8, .ref a9, .ref a10, .ref a11, .int 0, .int 0, .int 0, .int 0, .int 0, .long 0, .int 0, .int 0, .int 0, .int (-1), .ref a1, .ref a2, .ref a3, .ref a4, .ref a5, .ref a6, .ref a12, .ref a13, .int 0, .int 0, .ref a14, .ref a15, .int 0, .int 0, .int 0, .ref a16, .ref a17, .int 0, .int 0, .int 0, .int 0, .int 0, .ref a18, .int 0, .int 0, .int 0])), (a1, .inl (cI, 5, .inl (fun _ => 0))), (a2, .inl (cI, 30, .inl (fun _ => 0))), (a3, .inl (cI, 150, .inl (fun _ => 0))), (a4, .inl (cI, 25, .inl (fun _ => 0))), (a5, .inl (cI, 600, .inl (fun _ => 0)))]) [0, 1, 2, 3, 4, 5, 6] rfl rfl
  exact W.iret hx hb hr (fun t ht hW => ⟨⟨0, f1, rfl, rfl, by rw [ht]; exact hP9, va_K.moved hW.alike hK, hD9⟩, hS8.F ht⟩) hS8.2.2 dX10_image_36
set_option maxHeartbeats 4000000 in
set_option maxRecDepth 100000 in
theorem kX9_image_1 (l : Launch) (D : va_G) (cB cI cJ cZ cT cR : ClassId) (a0 a1 a2 a3 a4 a5 a6 a7 a8 a9 a10 a11 a12 a13 a14 a15 a16 a17 a18 a19 a20 a21 a22 a23 a24 a25 a26 a27 a28 a29 a30 : Nat) (sz : Nat) : Met l yX9_image (uc yX9_image cX9_image 2 (some .int)) (rmL 2 0 0) (va_Pc [.ref a0, .int 1] (MPre D [(cB, .byte), (cI, .int), (cJ, .long), (cZ, .boolean), (cT, .object RX7), (cR, .object RX3)] [(a0, .inr (9, [.ref a20, .ref a1, .ref a21, .ref a10, .int 0, .ref a22, .ref a23, .ref a24, .ref a25, .ref a26, .ref a27, .ref a28])), (a1, .inr (7, [.int 0, .int 0, .int 0, .int 0, .int 0, .int 0, .int 0, .int 0, .ref a2, .ref a3, .ref a4, .ref a5, .ref a6, .ref a7, .ref a8, .ref a9])), (a2, .inl (cI, 6, .inl (fun _ => 0))), (a3, .inl (cI, 6, .inl (fun _ => 0))), (a4, .inl (cI, 6, .inl (fun _ => 0))), (a5, .inl (cI, 6, .inl (fun _ => 0))), (a6, .inl (cI, 6, .inl (fun _ => 0))), (a7, .inl (cI, 40, .inl (fun _ => 0))), (a8, .inl (cI, 40, .inl (fun _ => 0))), (a9, .inl (cI, 40, .inl (fun _ => 0))), (a10, .inl (cT, 3, .inr (.inr (.inr (.inr (va_up (va_up (va_up (fun _ => none) 0 (some a29)) 1 (some a11)) 2 (some a30))))))), (a11, .inr (7, [.int 0, .int 0, .int 0, .int 0, .int 0, .int 0, .int 0, .int 0, .ref a12, .ref a13, .ref a14, .ref a15, .ref a16, .ref a17, .ref a18, .ref a19])), (a12, .inl (cI, 6, .inl (fun _ => 0))), (a13, .inl (cI, 6, .inl (fun _ => 0))), (a14, .inl (cI, 6, .inl (fun _ => 0))), (a15, .inl (cI, 6, .inl (fun _ => 0))), (a16, .inl (cI, 6, .inl (fun _ => 0))), (a17, .inl (cI, 40, .inl (fun _ => 0))), (a18, .inl (cI, 40, .inl (fun _ => 0))), (a19, .inl (cI, 40, .inl (fun _ => 0)))] sz)) (va_Qi (fun (r : Int32) (_ : (Nat → Int32) × (Nat → Int32) × (Nat → Int32) × (Nat → Int32) × (Nat → Int32) × (Nat → Int32) × (Nat → Int32) × (Nat → Int32)) => r = 0) (MB D [(cB, .byte), (cI, .int), (cJ, .long), (cZ, .boolean), (cT, .object RX7), (cR, .object RX3)] [(a0, .inr (9, [.ref a20, .ref a1, .ref a21, .ref a10, .int 0, .ref a22, .ref a23, .ref a24, .ref a25, .ref a26, .ref a27, .ref a28])), (a1, .inr (7, [.int 0, .int 0, .int 0, .int 0, .int 0, .int 0, .int 0, .int 0, .ref a2, .ref a3, .ref a4, .ref a5, .ref a6, .ref a7, .ref a8, .ref a9])), (a2, .inl (cI, 6, .inl (fun _ => 0))), (a3, .inl (cI, 6, .inl (fun _ => 0))), (a4, .inl (cI, 6, .inl (fun _ => 0))), (a5, .inl (cI, 6, .inl (fun _ => 0))), (a6, .inl (cI, 6, .inl (fun _ => 0))), (a7, .inl (cI, 40, .inl (fun _ => 0))), (a8, .inl (cI, 40, .inl (fun _ => 0))), (a9, .inl (cI, 40, .inl (fun _ => 0))), (a10, .inl (cT, 3, .inr (.inr (.inr (.inr (va_up (va_up (va_up (fun _ => none) 0 (some a29)) 1 (some a11)) 2 (some a30))))))), (a11, .inr (7, [.int 0, .int 0, .int 0, .int 0, .int 0, .int 0, .int 0, .int 0, .ref a12, .ref a13, .ref a14, .ref a15, .ref a16, .ref a17, .ref a18, .ref a19])), (a12, .inl (cI, 6, .inl (fun _ => 0))), (a13, .inl (cI, 6, .inl (fun _ => 0))), (a14, .inl (cI, 6, .inl (fun _ => 0))), (a15, .inl (cI, 6, .inl (fun _ => 0))), (a16, .inl (cI, 6, .inl (fun _ => 0))), (a17, .inl (cI, 40, .inl (fun _ => 0))), (a18, .inl (cI, 40, .inl (fun _ => 0))), (a19, .inl (cI, 40, .inl (fun _ => 0)))] sz (fun (u : (Nat → Int32) × (Nat → Int32) × (Nat → Int32) × (Nat → Int32) × (Nat → Int32) × (Nat → Int32) × (Nat → Int32) × (Nat → Int32)) => [(a0, .inr (9, [.ref a20, .ref a1, .ref a21, .ref a10, .int 2, .ref a22, .ref a23, .ref a24, .ref a25, .ref a26, .ref a27, .ref a28])), (a10, .inl (cT, 3, .inr (.inr (.inr (.inr (va_up (va_up (va_up (fun _ => none) 0 (some a29)) 1 (some a11)) 2 (some a30))))))), (a1, .inr (7, [.int 0, .int 0, .int 0, .int 0, .int 0, .int 0, .int 0, .int 0, .ref a2, .ref a3, .ref a4, .ref a5, .ref a6, .ref a7, .ref a8, .ref a9])), (a2, .inl (cI, 6, .inl (fun _ => 0))), (a3, .inl (cI, 6, .inl (fun _ => 0))), (a4, .inl (cI, 6, .inl (fun _ => 0))), (a5, .inl (cI, 6, .inl (fun _ => 0))), (a6, .inl (cI, 6, .inl (fun _ => 0))), (a7, .inl (cI, 40, .inl (fun _ => 0))), (a8, .inl (cI, 40, .inl (fun _ => 0))), (a9, .inl (cI, 40, .inl (fun _ => 0))), (a11, .inr (7, [.int 0, .int 0, .int 0, .int 0, .int 0, .int 0, .int 0, .int 0, .ref a12, .ref a13, .ref a14, .ref a15, .ref a16, .ref a17, .ref a18, .ref a19])), (a12, .inl (cI, 6, .inl (u.1))), (a13, .inl (cI, 6, .inl (u.2.1))), (a14, .inl (cI, 6, .inl (u.2.2.1))), (a15, .inl (cI, 6, .inl (u.2.2.2.1))), (a16, .inl (cI, 6, .inl (u.2.2.2.2.1))), (a17, .inl (cI, 40, .inl (u.2.2.2.2.2.1))), (a18, .inl (cI, 40, .inl (u.2.2.2.2.2.2.1))), (a19, .inl (cI, 40, .inl (u.2.2.2.2.2.2.2)))])) (va_A [(a0, .inr (9, [.ref a20, .ref a1, .ref a21, .ref a10, .int 0, .ref a22, .ref a23, .ref a24, .ref a25, .ref a26, .ref a27, .ref a28])), (a1, .inr (7, [.int 0, .int 0, .int 0, .int 0, .int 0, .int 0, .int 0, .int 0, .ref a2, .ref a3, .ref a4, .ref a5, .ref a6, .ref a7, .ref a8, .ref a9])), (a2, .inl (cI, 6, .inl (fun _ => 0))), (a3, .inl (cI, 6, .inl (fun _ => 0))), (a4, .inl (cI, 6, .inl (fun _ => 0))), (a5, .inl (cI, 6, .inl (fun _ => 0))), (a6, .inl (cI, 6, .inl (fun _ => 0))), (a7, .inl (cI, 40, .inl (fun _ => 0))), (a8, .inl (cI, 40, .inl (fun _ => 0))), (a9, .inl (cI, 40, .inl (fun _ => 0))), (a10, .inl (cT, 3, .inr (.inr (.inr (.inr (va_up (va_up (va_up (fun _ => none) 0 (some a29)) 1 (some a11)) 2 (some a30))))))), (a11, .inr (7, [.int 0, .int 0, .int 0, .int 0, .int 0, .int 0, .int 0, .int 0, .ref a12, .ref a13, .ref a14, .ref a15, .ref a16, .ref a17, .ref a18, .ref a19])), (a12, .inl (cI, 6, .inl (fun _ => 0))), (a13, .inl (cI, 6, .inl (fun _ => 0))), (a14, .inl (cI, 6, .inl (fun _ => 0))), (a15, .inl (cI, 6, .inl (fun _ => 0))), (a16, .inl (cI, 6, .inl (fun _ => 0))), (a17, .inl (cI, 40, .inl (fun _ => 0))), (a18, .inl (cI, 40, .inl (fun _ => 0))), (a19, .inl (cI, 40, .inl (fun _ => 0)))] sz)) 0 0 (va_A [(a0, .inr (9, [.ref a20, .ref a1, .ref a21, .ref a10, .int 0, .ref a22, .ref a23, .ref a24, .ref a25, .ref a26, .ref a27, .ref a28])), (a1, .inr (7, [.int 0, .int 0, .int 0, .int 0, .int 0, .int 0, .int 0, .int 0, .ref a2, .ref a3, .ref a4, .ref a5, .ref a6, .ref a7, .ref a8, .ref a9])), (a2, .inl (cI, 6, .inl (fun _ => 0))), (a3, .inl (cI, 6, .inl (fun _ => 0))), (a4, .inl (cI, 6, .inl (fun _ => 0))), (a5, .inl (cI, 6, .inl (fun _ => 0))), (a6, .inl (cI, 6, .inl (fun _ => 0))), (a7, .inl (cI, 40, .inl (fun _ => 0))), (a8, .inl (cI, 40, .inl (fun _ => 0))), (a9, .inl (cI, 40, .inl (fun _ => 0))), (a10, .inl (cT, 3, .inr (.inr (.inr (.inr (va_up (va_up (va_up (fun _ => none) 0 (some a29)) 1 (some a11)) 2 (some a30))))))), (a11, .inr (7, [.int 0, .int 0, .int 0, .int 0, .int 0, .int 0, .int 0, .int 0, .ref a12, .ref a13, .ref a14, .ref a15, .ref a16, .ref a17, .ref a18, .ref a19])), (a12, .inl (cI, 6, .inl (fun _ => 0))), (a13, .inl (cI, 6, .inl (fun _ => 0))), (a14, .inl (cI, 6, .inl (fun _ => 0))), (a15, .inl (cI, 6, .inl (fun _ => 0))), (a16, .inl (cI, 6, .inl (fun _ => 0))), (a17, .inl (cI, 40, .inl (fun _ => 0))), (a18, .inl (cI, 40, .inl (fun _ => 0))), (a19, .inl (cI, 40, .inl (fun _ => 0)))] sz) := by
  refine pm (by decide) (Nat.le_of_ble_eq_true rfl) ?_
  intro p e s m below meth c ls hx hb hr hml hown hlk hnm hts hv hl
  have hown : s.vm.findClass RX9 = some m.cls := hown
  have hl : lv_has ls 2 [(0, .ref a0), (1, .int 1)] := hl
  obtain ⟨hsz, hP, hK, hD0, hE⟩ := hv
  subst hsz
  have hD := hD0.self (sz := s.heap.size)
  obtain ⟨AA, hAe⟩ : ∃ AA, AA = va_A [(a0, .inr (9, [.ref a20, .ref a1, .ref a21, .ref a10, .int 0, .ref a22, .ref a23, .ref a24, .ref a25, .ref a26, .ref a27, .ref a28])), (a1, .inr (7, [.int 0, .int 0, .int 0, .int 0, .int 0, .int 0, .int 0, .int 0, .ref a2, .ref a3, .ref a4, .ref a5, .ref a6, .ref a7, .ref a8, .ref a9])), (a2, .inl (cI, 6, .inl (fun _ => 0))), (a3, .inl (cI, 6, .inl (fun _ => 0))), (a4, .inl (cI, 6, .inl (fun _ => 0))), (a5, .inl (cI, 6, .inl (fun _ => 0))), (a6, .inl (cI, 6, .inl (fun _ => 0))), (a7, .inl (cI, 40, .inl (fun _ => 0))), (a8, .inl (cI, 40, .inl (fun _ => 0))), (a9, .inl (cI, 40, .inl (fun _ => 0))), (a10, .inl (cT, 3, .inr (.inr (.inr (.inr (va_up (va_up (va_up (fun _ => none) 0 (some a29)) 1 (some a11)) 2 (some a30))))))), (a11, .inr (7, [.int 0, .int 0, .int 0, .int 0, .int 0, .int 0, .int 0, .int 0, .ref a12, .ref a13, .ref a14, .ref a15, .ref a16, .ref a17, .ref a18, .ref a19])), (a12, .inl (cI, 6, .inl (fun _ => 0))), (a13, .inl (cI, 6, .inl (fun _ => 0))), (a14, .inl (cI, 6, .inl (fun _ => 0))), (a15, .inl (cI, 6, .inl (fun _ => 0))), (a16, .inl (cI, 6, .inl (fun _ => 0))), (a17, .inl (cI, 40, .inl (fun _ => 0))), (a18, .inl (cI, 40, .inl (fun _ => 0))), (a19, .inl (cI, 40, .inl (fun _ => 0)))] s.heap.size := ⟨_, rfl⟩
  rw [← hAe] at hD
  have hA : ∀ q : Nat, s.heap.size ≤ q → AA q := fun q h => by rw [hAe]; exact Or.inr h
  have hS : va_S AA s.heap s.heap [] := va_S.rf
  obtain ⟨-, hAOT, hAOR, hAOI⟩ := id hE
  refine lv_iload_n hx hb dX9_image_0 rfl (lv_at hl 1 rfl) ?_
  refine lv_iconst (v := 0) hx hb dX9_image_1 (by decide) ?_
  refine lv_iconst (v := 2) hx hb dX9_image_2 (by decide) ?_
  refine csR (n := 3) (As := [.int 1, .int 0, .int 2]) (rest := []) ⟨hx, hb, hml, hown, hts⟩ uc_in (k_isWithin l D [(cB, .byte), (cI, .int), (cJ, .long), (cZ, .boolean), (cT, .object RX7), (cR, .object RX3)] 1 0 2 1 (if_pos (by decide)).symm) q_m651 q_s652 q_i1 q_c653 (by decide +kernel) ⟨(Nat.le_of_ble_eq_true rfl), (Nat.le_of_ble_eq_true rfl)⟩ ⟨(Nat.le_of_ble_eq_true rfl), (Nat.le_of_ble_eq_true rfl)⟩ hK (hP.sub (ws' := []) [] rfl) rfl hl.1 rfl (Nat.le_of_ble_eq_true rfl) dX9_image_3 ?_
  refine lv_if_ne (tgt := 12) hx hb dX9_image_6 (by decide) (fun _ => ?_) (fun c9 => absurd c9 (by decide))
  refine lv_aload_n hx hb dX9_image_12 rfl (lv_at hl 0 rfl) ?_
  refine va_get (D := D) (ci := 9) (v := .ref a10) (C := RX9) (T := TX9) (N := 12) hx hb hts (fun w h => uc_in w (inX9 w h)) hown hK hP 0 rfl rfl 3 (by decide) (hts _ (uc_in _ q_f386)) (fun _ h9 => h9) rfl dX9_image_13 ?_
  refine lv_iload_n hx hb dX9_image_16 rfl (lv_at hl 1 rfl) ?_
  refine va_aldq hx hb hK hP 10 4 rfl rfl (vp_in_iff.mpr ⟨by decide, by decide⟩) dX9_image_17 ?_
  refine pv_v (v := .ref a11) rfl ?_
  refine lv_aload_n hx hb dX9_image_18 rfl (lv_at hl 0 rfl) ?_
  refine va_get (D := D) (ci := 9) (v := .ref a1) (C := RX9) (T := TX9) (N := 12) hx hb hts (fun w h => uc_in w (inX9 w h)) hown hK hP 0 rfl rfl 1 (by decide) (hts _ (uc_in _ q_f384)) (fun _ h9 => h9) rfl dX9_image_19 ?_
  refine cvV (n := 1) (As := [.ref a1]) (rest := []) (wr := [(a0, .inr (9, [.ref a20, .ref a1, .ref a21, .ref a10, .int 0, .ref a22, .ref a23, .ref a24, .ref a25, .ref a26, .ref a27, .ref a28])), (a10, .inl (cT, 3, .inr (.inr (.inr (.inr (va_up (va_up (va_up (fun _ => none) 0 (some a29)) 1 (some a11)) 2 (some a30)))))))]) ⟨hx, hb, hml, hown, hts⟩ uc_in (kX7_copyFrom_1 l D cB cI cJ cZ cT cR a11 a1 a2 a3 a4 a5 a6 a7 a8 a9 a12 a13 a14 a15 a16 a17 a18 a19 _) q_m556 q_n557 q_e558 q_i3 q_c559 (by decide +kernel) ⟨(Nat.le_of_ble_eq_true rfl), (Nat.le_of_ble_eq_true rfl)⟩ ⟨(Nat.le_of_ble_eq_true rfl), (Nat.le_of_ble_eq_true rfl)⟩ hE hK hP hD hS hA [1, 2, 3, 4, 5, 6, 7, 8, 9, 11, 12, 13, 14, 15, 16, 17, 18, 19] [0, 10] rfl rfl rfl rfl (by decide) 7 9 rfl rfl rfl hl.1 rfl (Nat.le_of_ble_eq_true rfl) dX9_image_22 (fun u H locs hpo hP hD hS => ?_)
  obtain ⟨f1, f2, f3, f4, f5, f6, f7, f8⟩ := u
  have hP : va_P D vwCl [(a0, .inr (9, [.ref a20, .ref a1, .ref a21, .ref a10, .int 0, .ref a22, .ref a23, .ref a24, .ref a25, .ref a26, .ref a27, .ref a28])), (a10, .inl (cT, 3, .inr (.inr (.inr (.inr (va_up (va_up (va_up (fun _ => none) 0 (some a29)) 1 (some a11)) 2 (some a30))))))), (a1, .inr (7, [.int 0, .int 0, .int 0, .int 0, .int 0, .int 0, .int 0, .int 0, .ref a2, .ref a3, .ref a4, .ref a5, .ref a6, .ref a7, .ref a8, .ref a9])), (a2, .inl (cI, 6, .inl (fun _ => 0))), (a3, .inl (cI, 6, .inl (fun _ => 0))), (a4, .inl (cI, 6, .inl (fun _ => 0))), (a5, .inl (cI, 6, .inl (fun _ => 0))), (a6, .inl (cI, 6, .inl (fun _ => 0))), (a7, .inl (cI, 40, .inl (fun _ => 0))), (a8, .inl (cI, 40, .inl (fun _ => 0))), (a9, .inl (cI, 40, .inl (fun _ => 0))), (a11, .inr (7, [.int 0, .int 0, .int 0, .int 0, .int 0, .int 0, .int 0, .int 0, .ref a12, .ref a13, .ref a14, .ref a15, .ref a16, .ref a17, .ref a18, .ref a19])), (a12, .inl (cI, 6, .inl f1)), (a13, .inl (cI, 6, .inl f2)), (a14, .inl (cI, 6, .inl f3)), (a15, .inl (cI, 6, .inl f4)), (a16, .inl (cI, 6, .inl f5)), (a17, .inl (cI, 40, .inl f6)), (a18, .inl (cI, 40, .inl f7)), (a19, .inl (cI, 40, .inl f8))] H := hP
  have hD : va_D AA [(a0, .inr (9, [.ref a20, .ref a1, .ref a21, .ref a10, .int 0, .ref a22, .ref a23, .ref a24, .ref a25, .ref a26, .ref a27, .ref a28])), (a10, .inl (cT, 3, .inr (.inr (.inr (.inr (va_up (va_up (va_up (fun _ => none) 0 (some a29)) 1 (some a11)) 2 (some a30))))))), (a1, .inr (7, [.int 0, .int 0, .int 0, .int 0, .int 0, .int 0, .int 0, .int 0, .ref a2, .ref a3, .ref a4, .ref a5, .ref a6, .ref a7, .ref a8, .ref a9])), (a2, .inl (cI, 6, .inl (fun _ => 0))), (a3, .inl (cI, 6, .inl (fun _ => 0))), (a4, .inl (cI, 6, .inl (fun _ => 0))), (a5, .inl (cI, 6, .inl (fun _ => 0))), (a6, .inl (cI, 6, .inl (fun _ => 0))), (a7, .inl (cI, 40, .inl (fun _ => 0))), (a8, .inl (cI, 40, .inl (fun _ => 0))), (a9, .inl (cI, 40, .inl (fun _ => 0))), (a11, .inr (7, [.int 0, .int 0, .int 0, .int 0, .int 0, .int 0, .int 0, .int 0, .ref a12, .ref a13, .ref a14, .ref a15, .ref a16, .ref a17, .ref a18, .ref a19])), (a12, .inl (cI, 6, .inl f1)), (a13, .inl (cI, 6, .inl f2)), (a14, .inl (cI, 6, .inl f3)), (a15, .inl (cI, 6, .inl f4)), (a16, .inl (cI, 6, .inl f5)), (a17, .inl (cI, 40, .inl f6)), (a18, .inl (cI, 40, .inl f7)), (a19, .inl (cI, 40, .inl f8))] := hD
  refine W.cs (cells' := 0) (slots' := 0) rfl rfl ?_
  refine lv_aload_n hx hb dX9_image_25 rfl (lv_at hl 0 rfl) ?_
  refine lv_dup hx hb dX9_image_26 rfl ?_
  refine va_get (D := D) (ci := 9) (v := .int 0) (C := RX9) (T := TX9) (N := 12) hx hb hts (fun w h => uc_in w (inX9 w h)) hown hK hP 0 rfl rfl 4 (by decide) (hts _ (uc_in _ q_f387)) (fun _ h9 => h9) rfl dX9_image_27 ?_
  refine lv_iconst (v := 1) hx hb dX9_image_30 (by decide) ?_
  refine lv_iload_n hx hb dX9_image_31 rfl (lv_at hl 1 rfl) ?_
  refine lv_ishl hx hb dX9_image_32 ?_
  refine pv_i (v := 2) (by decide) ?_
  refine lv_ior hx hb dX9_image_33 ?_
  refine pv_i (v := 2) (by decide) ?_
  refine va_put (D := D) (ci := 9) (v := .int 2) (ty := .int) (C := RX9) (T := TX9) (N := 12) hx hb hts (fun w h => uc_in w (inX9 w h)) tyX9 tyX9_ok nmX9 hown hK hP hD hS 0 rfl rfl 4 (by decide) (hts _ (uc_in _ q_f387)) (fun _ h9 => h9) rfl (by decide +kernel) rfl rfl (Nat.le_of_ble_eq_true rfl) dX9_image_34 (fun H locs hP hD hS => ?_)
  have hP : va_P D vwCl [(a0, .inr (9, [.ref a20, .ref a1, .ref a21, .ref a10, .int 2, .ref a22, .ref a23, .ref a24, .ref a25, .ref a26, .ref a27, .ref a28])), (a10, .inl (cT, 3, .inr (.inr (.inr (.inr (va_up (va_up (va_up (fun _ => none) 0 (some a29)) 1 (some a11)) 2 (some a30))))))), (a1, .inr (7, [.int 0, .int 0, .int 0, .int 0, .int 0, .int 0, .int 0, .int 0, .ref a2, .ref a3, .ref a4, .ref a5, .ref a6, .ref a7, .ref a8, .ref a9])), (a2, .inl (cI, 6, .inl (fun _ => 0))), (a3, .inl (cI, 6, .inl (fun _ => 0))), (a4, .inl (cI, 6, .inl (fun _ => 0))), (a5, .inl (cI, 6, .inl (fun _ => 0))), (a6, .inl (cI, 6, .inl (fun _ => 0))), (a7, .inl (cI, 40, .inl (fun _ => 0))), (a8, .inl (cI, 40, .inl (fun _ => 0))), (a9, .inl (cI, 40, .inl (fun _ => 0))), (a11, .inr (7, [.int 0, .int 0, .int 0, .int 0, .int 0, .int 0, .int 0, .int 0, .ref a12, .ref a13, .ref a14, .ref a15, .ref a16, .ref a17, .ref a18, .ref a19])), (a12, .inl (cI, 6, .inl f1)), (a13, .inl (cI, 6, .inl f2)), (a14, .inl (cI, 6, .inl f3)), (a15, .inl (cI, 6, .inl f4)), (a16, .inl (cI, 6, .inl f5)), (a17, .inl (cI, 40, .inl f6)), (a18, .inl (cI, 40, .inl f7)), (a19, .inl (cI, 40, .inl f8))] H := hP
  have hD : va_D AA [(a0, .inr (9, [.ref a20, .ref a1, .ref a21, .ref a10, .int 2, .ref a22, .ref a23, .ref a24, .ref a25, .ref a26, .ref a27, .ref a28])), (a10, .inl (cT, 3, .inr (.inr (.inr (.inr (va_up (va_up (va_up (fun _ => none) 0 (some a29)) 1 (some a11)) 2 (some a30))))))), (a1, .inr (7, [.int 0, .int 0, .int 0, .int 0, .int 0, .int 0, .int 0, .int 0, .ref a2, .ref a3, .ref a4, .ref a5, .ref a6, .ref a7, .ref a8, .ref a9])), (a2, .inl (cI, 6, .inl (fun _ => 0))), (a3, .inl (cI, 6, .inl (fun _ => 0))), (a4, .inl (cI, 6, .inl (fun _ => 0))), (a5, .inl (cI, 6, .inl (fun _ => 0))), (a6, .inl (cI, 6, .inl (fun _ => 0))), (a7, .inl (cI, 40, .inl (fun _ => 0))), (a8, .inl (cI, 40, .inl (fun _ => 0))), (a9, .inl (cI, 40, .inl (fun _ => 0))), (a11, .inr (7, [.int 0, .int 0, .int 0, .int 0, .int 0, .int 0, .int 0, .int 0, .ref a12, .ref a13, .ref a14, .ref a15, .ref a16, .ref a17, .ref a18, .ref a19])), (a12, .inl (cI, 6, .inl f1)), (a13, .inl (cI, 6, .inl f2)), (a14, .inl (cI, 6, .inl f3)), (a15, .inl (cI, 6, .inl f4)), (a16, .inl (cI, 6, .inl f5)), (a17, .inl (cI, 40, .inl f6)), (a18, .inl (cI, 40, .inl f7)), (a19, .inl (cI, 40, .inl f8))] := hD
  refine lv_iconst (v := 0) hx hb dX9_image_37 (by decide) ?_
  have hD8 : va_D (va_A [(a0, .inr (9, [.ref a20, .ref a1, .ref a21, .ref a10, .int 0, .ref a22, .ref a23, .ref a24, .ref a25, .ref a26, .ref a27, .ref a28])), (a1, .inr (7, [.int 0, .int 0, .int 0, .int 0, .int 0, .int 0, .int 0, .int 0, .ref a2, .ref a3, .ref a4, .ref a5, .ref a6, .ref a7, .ref a8, .ref a9])), (a2, .inl (cI, 6, .inl (fun _ => 0))), (a3, .inl (cI, 6, .inl (fun _ => 0))), (a4, .inl (cI, 6, .inl (fun _ => 0))), (a5, .inl (cI, 6, .inl (fun _ => 0))), (a6, .inl (cI, 6, .inl (fun _ => 0))), (a7, .inl (cI, 40, .inl (fun _ => 0))), (a8, .inl (cI, 40, .inl (fun _ => 0))), (a9, .inl (cI, 40, .inl (fun _ => 0))), (a10, .inl (cT, 3, .inr (.inr (.inr (.inr (va_up (va_up (va_up (fun _ => none) 0 (some a29)) 1 (some a11)) 2 (some a30))))))), (a11, .inr (7, [.int 0, .int 0, .int 0, .int 0, .int 0, .int 0, .int 0, .int 0, .ref a12, .ref a13, .ref a14, .ref a15, .ref a16, .ref a17, .ref a18, .ref a19])), (a12, .inl (cI, 6, .inl (fun _ => 0))), (a13, .inl (cI, 6, .inl (fun _ => 0))), (a14, .inl (cI, 6, .inl (fun _ => 0))), (a15, .inl (cI, 6, .inl (fun _ => 0))), (a16, .inl (cI, 6, .inl (fun _ => 0))), (a17, .inl (cI, 40, .inl (fun _ => 0))), (a18, .inl (cI, 40, .inl (fun _ => 0))), (a19, .inl (cI, 40, .inl (fun _ => 0)))] s.heap.size) [(a0, .inr (9, [.ref a20, .ref a1, .ref a21, .ref a10, .int 2, .ref a22, .ref a23, .ref a24, .ref a25, .ref a26, .ref a27, .ref a28])), (a10, .inl (cT, 3, .inr (.inr (.inr (.inr (va_up (va_up (va_up (fun _ => none) 0 (some a29)) 1 (some a11)) 2 (some a30))))))), (a1, .inr (7, [.int 0, .int 0, .int 0, .int 0, .int 0, .int 0, .int 0, .int 0, .ref a2, .ref a3, .ref a4, .ref a5, .ref a6, .ref a7, .ref a8, .ref a9])), (a2, .inl (cI, 6, .inl (fun _ => 0))), (a3, .inl (cI, 6, .inl (fun _ => 0))), (a4, .inl (cI, 6, .inl (fun _ => 0))), (a5, .inl (cI, 6, .inl (fun _ => 0))), (a6, .inl (cI, 6, .inl (fun _ => 0))), (a7, .inl (cI, 40, .inl (fun _ => 0))), (a8, .inl (cI, 40, .inl (fun _ => 0))), (a9, .inl (cI, 40, .inl (fun _ => 0))), (a11, .inr (7, [.int 0, .int 0, .int 0, .int 0, .int 0, .int 0, .int 0, .int 0, .ref a12, .ref a13, .ref a14, .ref a15, .ref a16, .ref a17, .ref a18, .ref a19])), (a12, .inl (cI, 6, .inl f1)), (a13, .inl (cI, 6, .inl f2)), (a14, .inl (cI, 6, .inl f3)), (a15, .inl (cI, 6, .inl f4)), (a16, .inl (cI, 6, .inl f5)), (a17, .inl (cI, 40, .inl f6)), (a18, .inl (cI, 40, .inl f7)), (a19, .inl (cI, 40, .inl f8))] := by rw [← hAe]; exact hD
  have hS8 : va_S (va_A [(a0, .inr (9, [.ref a20, .ref a1, .ref a21, .ref a10, .int 0, .ref a22, .ref a23, .ref a24, .ref a25, .ref a26, .ref a27, .ref a28])), (a1, .inr (7, [.int 0, .int 0, .int 0, .int 0, .int 0, .int 0, .int 0, .int 0, .ref a2, .ref a3, .ref a4, .ref a5, .ref a6, .ref a7, .ref a8, .ref a9])), (a2, .inl (cI, 6, .inl (fun _ => 0))), (a3, .inl (cI, 6, .inl (fun _ => 0))), (a4, .inl (cI, 6, .inl (fun _ => 0))), (a5, .inl (cI, 6, .inl (fun _ => 0))), (a6, .inl (cI, 6, .inl (fun _ => 0))), (a7, .inl (cI, 40, .inl (fun _ => 0))), (a8, .inl (cI, 40, .inl (fun _ => 0))), (a9, .inl (cI, 40, .inl (fun _ => 0))), (a10, .inl (cT, 3, .inr (.inr (.inr (.inr (va_up (va_up (va_up (fun _ => none) 0 (some a29)) 1 (some a11)) 2 (some a30))))))), (a11, .inr (7, [.int 0, .int 0, .int 0, .int 0, .int 0, .int 0, .int 0, .int 0, .ref a12, .ref a13, .ref a14, .ref a15, .ref a16, .ref a17, .ref a18, .ref a19])), (a12, .inl (cI, 6, .inl (fun _ => 0))), (a13, .inl (cI, 6, .inl (fun _ => 0))), (a14, .inl (cI, 6, .inl (fun _ => 0))), (a15, .inl (cI, 6, .inl (fun _ => 0))), (a16, .inl (cI, 6, .inl (fun _ => 0))), (a17, .inl (cI, 40, .inl (fun _ => 0))), (a18, .inl (cI, 40, .inl (fun _ => 0))), (a19, .inl (cI, 40, .inl (fun _ => 0)))] s.heap.size) s.heap H locs := by rw [← hAe]; exact hS
  have hP9 := hP.sub (ws' := [(a0, .inr (9, [.ref a20, .ref a1, .ref a21, .ref a10, .int 2, .ref a22, .ref a23, .ref a24, .ref a25, .ref a26, .ref a27, .ref a28])), (a10, .inl (cT, 3, .inr (.inr (.inr (.inr (va_up (va_up (va_up (fun _ => none) 0 (some a29)) 1 (some a11)) 2 (some a30))))))), (a1, .inr (7, [.int 0, .int 0, .int 0, .int 0, .int 0, .int 0, .int 0, .int 0, .ref a2, .ref a3, .ref a4, .ref a5, .ref a6, .ref a7, .ref a8, .ref a9])), (a2, .inl (cI, 6, .inl (fun _ => 0))), (a3, .inl (cI, 6, .inl (fun _ => 0))), (a4, .inl (cI, 6, .inl (fun _ => 0))), (a5, .inl (cI, 6, .inl (fun _ => 0))), (a6, .inl (cI, 6, .inl (fun _ => 0))), (a7, .inl (cI, 40, .inl (fun _ => 0))), (a8, .inl (cI, 40, .inl (fun _ => 0))), (a9, .inl (cI, 40, .inl (fun _ => 0))), (a11, .inr (7, [.int 0, .int 0, .int 0, .int 0, .int 0, .int 0, .int 0, .int 0, .ref a12, .ref a13, .ref a14, .ref a15, .ref a16, .ref a17, .ref a18, .ref a19])), (a12, .inl (cI, 6, .inl f1)), (a13, .inl (cI, 6, .inl f2)), (a14, .inl (cI, 6, .inl f3)), (a15, .inl (cI, 6, .inl f4)), (a16, .inl (cI, 6, .inl f5)), (a17, .inl (cI, 40, .inl f6)), (a18, .inl (cI, 40, .inl f7)), (a19, .inl (cI, 40, .inl f8))]) [0, 1, 2, 3, 4, 5, 6, 7, 8, 9, 10, 11, 12, 13, 14, 15, 16, 17, 18, 19] rfl
  have hD9 := hD8.sub (ws' := [(a0, .inr (9, [.ref a20, .ref a1, .ref a21, .ref a10, .int 2, .ref a22, .ref a23, .ref a24, .ref a25, .ref a26, .ref a27, .ref a28])), (a10, .inl (cT, 3, .inr (.inr (.inr (.inr (va_up (va_up (va_up (fun _ => none) 0 (some a29)) 1 (some a11)) 2 (some a30))))))), (a1, .inr (7, [.int 0, .int 0, .int 0, .int 0, .int 0, .int 0, .int 0, .int 0, .ref a2, .ref a3, .ref a4, .ref a5, .ref a6, .ref a7, .ref a8, .ref a9])), (a2, .inl (cI, 6, .inl (fun _ => 0))), (a3, .inl (cI, 6, .inl (fun _ => 0))), (a4, .inl (cI, 6, .inl (fun _ => 0))), (a5, .inl (cI, 6, .inl (fun _ => 0))), (a6, .inl (cI, 6, .inl (fun _ => 0))), (a7, .inl (cI, 40, .inl (fun _ => 0))), (a8, .inl (cI, 40, .inl (fun _ => 0))), (a9, .inl (cI, 40, .inl (fun _ => 0))), (a11, .inr (7, [.int 0, .int 0, .int 0, .int 0, .int 0, .int 0, .int 0, .int 0, .ref a12, .ref a13, .ref a14, .ref a15, .ref a16, .ref a17, .ref a18, .ref a19])), (a12, .inl (cI, 6, .inl f1)), (a13, .inl (cI, 6, .inl f2)), (a14, .inl (cI, 6, .inl f3)), (a15, .inl (cI, 6, .inl f4)), (a16, .inl (cI, 6, .inl f5)), (a17, .inl (cI, 40, .inl f6)), (a18, .inl (cI, 40, .inl f7)), (a19, .inl (cI, 40, .inl f8))]) [0, 1, 2, 3, 4, 5, 6, 7, 8, 9, 10, 11, 12, 13, 14, 15, 16, 17, 18, 19] rfl rfl
  exact W.iret hx hb hr (fun t ht hW => ⟨⟨0, (f1, f2, f3, f4, f5, f6, f7, f8), rfl, rfl, by rw [ht]; exact hP9, va_K.moved hW.alike hK, hD9⟩, hS8.F ht⟩) hS8.2.2 dX9_image_38
set_option maxHeartbeats 4000000 in
set_option maxRecDepth 100000 in
theorem lp_X10_copyRow_11 {p : Program} {l : Launch} {e : Env} {R : Room} {s : State} {m : MethodId} {args : Array Value} {below : List Frame} {meth : Method} {c : Code} {cells slots : Nat} {Q : State → Prop} {D : va_G} {AA : Nat → Prop} {H0 : Heap} {Ts : List Cond} {cB cI cJ cZ cT cR : ClassId} {a0 : Nat} (hx : p.tables.exec = Jvm.exec) (hb : c.code = cX10_copyRow) (hT : ∀ w ∈ uw, w ∈ Ts) (hts : ∀ w ∈ Ts, w.before args s = true) (hown : s.vm.findClass RX10 = some m.cls) (hK : va_K D vwCl [(cB, .byte), (cI, .int), (cJ, .long), (cZ, .boolean), (cT, .object RX7), (cR, .object RX3)] s)
    (kx : ∀ (H : Heap) (locs : List Loc) (ls : Array Slot), va_P D vwCl [(a0, .inl (cI, 5, .inl (fun _ => 0)))] H → va_D AA [(a0, .inl (cI, 5, .inl (fun _ => 0)))] → va_S AA H0 H locs → lv_has ls 5 [(4, .int 1), (0, .ref a0), (1, .int 1), (2, .int 0), (3, .int 2)] → W p l e R s m args below meth c H locs cells slots Q (F0 m 31 ls [])) :
    ∀ (j k : Nat), k + j = 1 → ∀ (H : Heap) (locs : List Loc) (ls : Array Slot), va_P D vwCl [(a0, .inl (cI, 5, .inl (fun _ => 0)))] H → va_D AA [(a0, .inl (cI, 5, .inl (fun _ => 0)))] → va_S AA H0 H locs → lv_has ls 5 [(4, .int (nI k)), (0, .ref a0), (1, .int 1), (2, .int 0), (3, .int 2)] → W p l e R s m args below meth c H locs cells slots Q (F0 m 3 ls []) := by
  intro j
  induction j with
  | zero =>
    intro k hk H locs ls hP hD hS hl
    refine lv_iload hx hb dX10_copyRow_3 (lv_at hl 0 rfl) ?_
    refine lv_iload_n hx hb dX10_copyRow_5 rfl (lv_at hl 2 rfl) ?_
    refine lv_icmp_ge (tgt := 31) hx hb dX10_copyRow_6 (by decide) (fun _ => ?_) (fun c9 => absurd (show (1 : Int32) ≤ nI k from nI_le (a := 1) (by omega) (by omega)) c9)
    have ek : k = 1 := by omega
    subst ek
    exact kx H locs ls hP hD hS hl
  | succ j ih =>
    intro k hk H locs ls hP hD hS hl
    refine lv_iload hx hb dX10_copyRow_3 (lv_at hl 0 rfl) ?_
    refine lv_iload_n hx hb dX10_copyRow_5 rfl (lv_at hl 2 rfl) ?_
    refine lv_icmp_ge (tgt := 31) hx hb dX10_copyRow_6 (by decide) (fun c9 => absurd c9 (show ¬ (1 : Int32) ≤ nI k from nI_ge (b := 1) (by omega) (by omega))) (fun _ => ?_)
    refine lv_aload_n hx hb dX10_copyRow_9 rfl (lv_at hl 1 rfl) ?_
    refine lv_iload_n hx hb dX10_copyRow_10 rfl (lv_at hl 2 rfl) ?_
    refine lv_iload_n hx hb dX10_copyRow_11 rfl (lv_at hl 4 rfl) ?_
    refine lv_imul hx hb dX10_copyRow_12 ?_
    refine pv_i (v := 2) (by decide) ?_
    refine lv_iload hx hb dX10_copyRow_13 (lv_at hl 0 rfl) ?_
    refine lv_iadd hx hb dX10_copyRow_15 ?_
    refine pv_i (v := (nI (2 + k))) (nI_add 2 k) ?_
    refine lv_aload_n hx hb dX10_copyRow_16 rfl (lv_at hl 1 rfl) ?_
    refine lv_iload_n hx hb dX10_copyRow_17 rfl (lv_at hl 2 rfl) ?_
    refine lv_iload_n hx hb dX10_copyRow_18 rfl (lv_at hl 3 rfl) ?_
    refine lv_imul hx hb dX10_copyRow_19 ?_
    refine pv_i (v := 0) (by decide) ?_
    refine lv_iload hx hb dX10_copyRow_20 (lv_at hl 0 rfl) ?_
    refine lv_iadd hx hb dX10_copyRow_22 ?_
    refine pv_i (v := (nI (0 + k))) (nI_add 0 k) ?_
    refine va_iald hx hb hK hP 0 1 rfl rfl (vp_in_nI (by omega) (by decide)) dX10_copyRow_23 ?_
    refine pv_i (v := 0) rfl ?_
    refine va_iast hx hb hK hP hD hS 0 1 rfl rfl (vp_in_nI (by omega) (by decide)) dX10_copyRow_24 (fun H locs hP hD hS => ?_)
    rw [upd0] at hP hD
    have hP : va_P D vwCl [(a0, .inl (cI, 5, .inl (fun _ => 0)))] H := hP
    have hD : va_D AA [(a0, .inl (cI, 5, .inl (fun _ => 0)))] := hD
    refine lv_iinc (v := (nI (k + 1))) (lv' := [(4, .int (nI (k + 1))), (0, .ref a0), (1, .int 1), (2, .int 0), (3, .int 2)]) hx hb dX10_copyRow_25 hl (k := 0) rfl (nI_1 k) (by decide) rfl (fun ls hl => ?_)
    refine lv_goto (tgt := 3) hx hb dX10_copyRow_28 (by decide) ?_
    exact ih (k + 1) (by omega) H locs ls hP hD hS (lv_sub hl [0, 1, 2, 3, 4] rfl)
set_option maxHeartbeats 4000000 in
set_option maxRecDepth 100000 in
theorem kX10_copyRow_10 (l : Launch) (D : va_G) (cB cI cJ cZ cT cR : ClassId) (a0 : Nat) (sz : Nat) : Met l yX10_copyRow (uc yX10_copyRow cX10_copyRow 5 none) (rmL 1 0 0) (va_Pc [.ref a0, .int 1, .int 0, .int 2] (MPre D [(cB, .byte), (cI, .int), (cJ, .long), (cZ, .boolean), (cT, .object RX7), (cR, .object RX3)] [(a0, .inl (cI, 5, .inl (fun _ => 0)))] sz)) (va_Qv (fun (_ : Unit) => True) (MB D [(cB, .byte), (cI, .int), (cJ, .long), (cZ, .boolean), (cT, .object RX7), (cR, .object RX3)] [(a0, .inl (cI, 5, .inl (fun _ => 0)))] sz (fun (u : Unit) => [(a0, .inl (cI, 5, .inl (fun _ => 0)))])) (va_A [(a0, .inl (cI, 5, .inl (fun _ => 0)))] sz)) 0 0 (va_A [(a0, .inl (cI, 5, .inl (fun _ => 0)))] sz) := by
  refine pm (by decide) (Nat.le_of_ble_eq_true rfl) ?_
  intro p e s m below meth c ls hx hb hr hml hown hlk hnm hts hv hl
  have hown : s.vm.findClass RX10 = some m.cls := hown
  have hl : lv_has ls 5 [(0, .ref a0), (1, .int 1), (2, .int 0), (3, .int 2)] := hl
  obtain ⟨hsz, hP, hK, hD0, hE⟩ := hv
  subst hsz
  have hD := hD0.self (sz := s.heap.size)
  obtain ⟨AA, hAe⟩ : ∃ AA, AA = va_A [(a0, .inl (cI, 5, .inl (fun _ => 0)))] s.heap.size := ⟨_, rfl⟩
  rw [← hAe] at hD
  have hA : ∀ q : Nat, s.heap.size ≤ q → AA q := fun q h => by rw [hAe]; exact Or.inr h
  have hS : va_S AA s.heap s.heap [] := va_S.rf
  obtain ⟨-, hAOT, hAOR, hAOI⟩ := id hE
  refine lv_iconst (v := 0) hx hb dX10_copyRow_0 (by decide) ?_
  refine lv_istore (lv' := [(4, .int 0), (0, .ref a0), (1, .int 1), (2, .int 0), (3, .int 2)]) hx hb dX10_copyRow_1 hl (by decide) rfl (fun ls hl => ?_)
  refine lp_X10_copyRow_11 hx hb uc_in hts hown hK (fun H locs ls hP hD hS hl => ?_) 1 0 (by omega) _ _ ls hP hD hS hl
  have hP : va_P D vwCl [(a0, .inl (cI, 5, .inl (fun _ => 0)))] H := hP
  have hD : va_D AA [(a0, .inl (cI, 5, .inl (fun _ => 0)))] := hD
  subst hAe
  have hP9 := hP.sub (ws' := [(a0, .inl (cI, 5, .inl (fun _ => 0)))]) [0] rfl
  have hD9 := hD.sub (ws' := [(a0, .inl (cI, 5, .inl (fun _ => 0)))]) [0] rfl rfl
  exact W.vret hx hb hr (fun t ht hW => ⟨⟨(), rfl, trivial, by rw [ht]; exact hP9, va_K.moved hW.alike hK, hD9⟩, hS.F ht⟩) hS.2.2 dX10_copyRow_31
set_option maxHeartbeats 4000000 in
set_option maxRecDepth 100000 in
theorem lp_X10_copyRow_12 {p : Program} {l : Launch} {e : Env} {R : Room} {s : State} {m : MethodId} {args : Array Value} {below : List Frame} {meth : Method} {c : Code} {cells slots : Nat} {Q : State → Prop} {D : va_G} {AA : Nat → Prop} {H0 : Heap} {Ts : List Cond} {cB cI cJ cZ cT cR : ClassId} {a0 : Nat} (hx : p.tables.exec = Jvm.exec) (hb : c.code = cX10_copyRow) (hT : ∀ w ∈ uw, w ∈ Ts) (hts : ∀ w ∈ Ts, w.before args s = true) (hown : s.vm.findClass RX10 = some m.cls) (hK : va_K D vwCl [(cB, .byte), (cI, .int), (cJ, .long), (cZ, .boolean), (cT, .object RX7), (cR, .object RX3)] s)
    (kx : ∀ (H : Heap) (locs : List Loc) (ls : Array Slot), va_P D vwCl [(a0, .inl (cI, 30, .inl (fun _ => 0)))] H → va_D AA [(a0, .inl (cI, 30, .inl (fun _ => 0)))] → va_S AA H0 H locs → lv_has ls 5 [(4, .int 6), (0, .ref a0), (1, .int 6), (2, .int 0), (3, .int 2)] → W p l e R s m args below meth c H locs cells slots Q (F0 m 31 ls [])) :
    ∀ (j k : Nat), k + j = 6 → ∀ (H : Heap) (locs : List Loc) (ls : Array Slot), va_P D vwCl [(a0, .inl (cI, 30, .inl (fun _ => 0)))] H → va_D AA [(a0, .inl (cI, 30, .inl (fun _ => 0)))] → va_S AA H0 H locs → lv_has ls 5 [(4, .int (nI k)), (0, .ref a0), (1, .int 6), (2, .int 0), (3, .int 2)] → W p l e R s m args below meth c H locs cells slots Q (F0 m 3 ls []) := by
  intro j
  induction j with
  | zero =>
    intro k hk H locs ls hP hD hS hl
    refine lv_iload hx hb dX10_copyRow_3 (lv_at hl 0 rfl) ?_
    refine lv_iload_n hx hb dX10_copyRow_5 rfl (lv_at hl 2 rfl) ?_
    refine lv_icmp_ge (tgt := 31) hx hb dX10_copyRow_6 (by decide) (fun _ => ?_) (fun c9 => absurd (show (6 : Int32) ≤ nI k from nI_le (a := 6) (by omega) (by omega)) c9)
    have ek : k = 6 := by omega
    subst ek
    exact kx H locs ls hP hD hS hl
  | succ j ih =>
    intro k hk H locs ls hP hD hS hl
    refine lv_iload hx hb dX10_copyRow_3 (lv_at hl 0 rfl) ?_
    refine lv_iload_n hx hb dX10_copyRow_5 rfl (lv_at hl 2 rfl) ?_
    refine lv_icmp_ge (tgt := 31) hx hb dX10_copyRow_6 (by decide) (fun c9 => absurd c9 (show ¬ (6 : Int32) ≤ nI k from nI_ge (b := 6) (by omega) (by omega))) (fun _ => ?_)
    refine lv_aload_n hx hb dX10_copyRow_9 rfl (lv_at hl 1 rfl) ?_
    refine lv_iload_n hx hb dX10_copyRow_10 rfl (lv_at hl 2 rfl) ?_
    refine lv_iload_n hx hb dX10_copyRow_11 rfl (lv_at hl 4 rfl) ?_
    refine lv_imul hx hb dX10_copyRow_12 ?_
    refine pv_i (v := 12) (by decide) ?_
    refine lv_iload hx hb dX10_copyRow_13 (lv_at hl 0 rfl) ?_
    refine lv_iadd hx hb dX10_copyRow_15 ?_
    refine pv_i (v := (nI (12 + k))) (nI_add 12 k) ?_
    refine lv_aload_n hx hb dX10_copyRow_16 rfl (lv_at hl 1 rfl) ?_
    refine lv_iload_n hx hb dX10_copyRow_17 rfl (lv_at hl 2 rfl) ?_
    refine lv_iload_n hx hb dX10_copyRow_18 rfl (lv_at hl 3 rfl) ?_
    refine lv_imul hx hb dX10_copyRow_19 ?_
    refine pv_i (v := 0) (by decide) ?_
    refine lv_iload hx hb dX10_copyRow_20 (lv_at hl 0 rfl) ?_
    refine lv_iadd hx hb dX10_copyRow_22 ?_
    refine pv_i (v := (nI (0 + k))) (nI_add 0 k) ?_
    refine va_iald hx hb hK hP 0 1 rfl rfl (vp_in_nI (by omega) (by decide)) dX10_copyRow_23 ?_
    refine pv_i (v := 0) rfl ?_
    refine va_iast hx hb hK hP hD hS 0 1 rfl rfl (vp_in_nI (by omega) (by decide)) dX10_copyRow_24 (fun H locs hP hD hS => ?_)
    rw [upd0] at hP hD
    have hP : va_P D vwCl [(a0, .inl (cI, 30, .inl (fun _ => 0)))] H := hP
    have hD : va_D AA [(a0, .inl (cI, 30, .inl (fun _ => 0)))] := hD
    refine lv_iinc (v := (nI (k + 1))) (lv' := [(4, .int (nI (k + 1))), (0, .ref a0), (1, .int 6), (2, .int 0), (3, .int 2)]) hx hb dX10_copyRow_25 hl (k := 0) rfl (nI_1 k) (by decide) rfl (fun ls hl => ?_)
    refine lv_goto (tgt := 3) hx hb dX10_copyRow_28 (by decide) ?_
    exact ih (k + 1) (by omega) H locs ls hP hD hS (lv_sub hl [0, 1, 2, 3, 4] rfl)
set_option maxHeartbeats 4000000 in
set_option maxRecDepth 100000 in
theorem kX10_copyRow_11 (l : Launch) (D : va_G) (cB cI cJ cZ cT cR : ClassId) (a0 : Nat) (sz : Nat) : Met l yX10_copyRow (uc yX10_copyRow cX10_copyRow 5 none) (rmL 1 0 0) (va_Pc [.ref a0, .int 6, .int 0, .int 2] (MPre D [(cB, .byte), (cI, .int), (cJ, .long), (cZ, .boolean), (cT, .object RX7), (cR, .object RX3)] [(a0, .inl (cI, 30, .inl (fun _ => 0)))] sz)) (va_Qv (fun (_ : Unit) => True) (MB D [(cB, .byte), (cI, .int), (cJ, .long), (cZ, .boolean), (cT, .object RX7), (cR, .object RX3)] [(a0, .inl (cI, 30, .inl (fun _ => 0)))] sz (fun (u : Unit) => [(a0, .inl (cI, 30, .inl (fun _ => 0)))])) (va_A [(a0, .inl (cI, 30, .inl (fun _ => 0)))] sz)) 0 0 (va_A [(a0, .inl (cI, 30, .inl (fun _ => 0)))] sz) := by
  refine pm (by decide) (Nat.le_of_ble_eq_true rfl) ?_
  intro p e s m below meth c ls hx hb hr hml hown hlk hnm hts hv hl
  have hown : s.vm.findClass RX10 = some m.cls := hown
  have hl : lv_has ls 5 [(0, .ref a0), (1, .int 6), (2, .int 0), (3, .int 2)] := hl
  obtain ⟨hsz, hP, hK, hD0, hE⟩ := hv
  subst hsz
  have hD := hD0.self (sz := s.heap.size)
  obtain ⟨AA, hAe⟩ : ∃ AA, AA = va_A [(a0, .inl (cI, 30, .inl (fun _ => 0)))] s.heap.size := ⟨_, rfl⟩
  rw [← hAe] at hD
  have hA : ∀ q : Nat, s.heap.size ≤ q → AA q := fun q h => by rw [hAe]; exact Or.inr h
  have hS : va_S AA s.heap s.heap [] := va_S.rf
  obtain ⟨-, hAOT, hAOR, hAOI⟩ := id hE
  refine lv_iconst (v := 0) hx hb dX10_copyRow_0 (by decide) ?_
  refine lv_istore (lv' := [(4, .int 0), (0, .ref a0), (1, .int 6), (2, .int 0), (3, .int 2)]) hx hb dX10_copyRow_1 hl (by decide) rfl (fun ls hl => ?_)
  refine lp_X10_copyRow_12 hx hb uc_in hts hown hK (fun H locs ls hP hD hS hl => ?_) 6 0 (by omega) _ _ ls hP hD hS hl
  have hP : va_P D vwCl [(a0, .inl (cI, 30, .inl (fun _ => 0)))] H := hP
  have hD : va_D AA [(a0, .inl (cI, 30, .inl (fun _ => 0)))] := hD
  subst hAe
  have hP9 := hP.sub (ws' := [(a0, .inl (cI, 30, .inl (fun _ => 0)))]) [0] rfl
  have hD9 := hD.sub (ws' := [(a0, .inl (cI, 30, .inl (fun _ => 0)))]) [0] rfl rfl
  exact W.vret hx hb hr (fun t ht hW => ⟨⟨(), rfl, trivial, by rw [ht]; exact hP9, va_K.moved hW.alike hK, hD9⟩, hS.F ht⟩) hS.2.2 dX10_copyRow_31
set_option maxHeartbeats 4000000 in
set_option maxRecDepth 100000 in
theorem lp_X10_copyRow_13 {p : Program} {l : Launch} {e : Env} {R : Room} {s : State} {m : MethodId} {args : Array Value} {below : List Frame} {meth : Method} {c : Code} {cells slots : Nat} {Q : State → Prop} {D : va_G} {AA : Nat → Prop} {H0 : Heap} {Ts : List Cond} {cB cI cJ cZ cT cR : ClassId} {a0 : Nat} (hx : p.tables.exec = Jvm.exec) (hb : c.code = cX10_copyRow) (hT : ∀ w ∈ uw, w ∈ Ts) (hts : ∀ w ∈ Ts, w.before args s = true) (hown : s.vm.findClass RX10 = some m.cls) (hK : va_K D vwCl [(cB, .byte), (cI, .int), (cJ, .long), (cZ, .boolean), (cT, .object RX7), (cR, .object RX3)] s)
    (kx : ∀ (H : Heap) (locs : List Loc) (ls : Array Slot), va_P D vwCl [(a0, .inl (cI, 150, .inl (fun _ => 0)))] H → va_D AA [(a0, .inl (cI, 150, .inl (fun _ => 0)))] → va_S AA H0 H locs → lv_has ls 5 [(4, .int 30), (0, .ref a0), (1, .int 30), (2, .int 0), (3, .int 2)] → W p l e R s m args below meth c H locs cells slots Q (F0 m 31 ls [])) :
    ∀ (j k : Nat), k + j = 30 → ∀ (H : Heap) (locs : List Loc) (ls : Array Slot), va_P D vwCl [(a0, .inl (cI, 150, .inl (fun _ => 0)))] H → va_D AA [(a0, .inl (cI, 150, .inl (fun _ => 0)))] → va_S AA H0 H locs → lv_has ls 5 [(4, .int (nI k)), (0, .ref a0), (1, .int 30), (2, .int 0), (3, .int 2)] → W p l e R s m args below meth c H locs cells slots Q (F0 m 3 ls []) := by
  intro j
  induction j with
  | zero =>
    intro k hk H locs ls hP hD hS hl
    refine lv_iload hx hb dX10_copyRow_3 (lv_at hl 0 rfl) ?_
    refine lv_iload_n hx hb dX10_copyRow_5 rfl (lv_at hl 2 rfl) ?_
    refine lv_icmp_ge (tgt := 31) hx hb dX10_copyRow_6 (by decide) (fun _ => ?_) (fun c9 => absurd (show (30 : Int32) ≤ nI k from nI_le (a := 30) (by omega) (by omega)) c9)
    have ek : k = 30 := by omega
    subst ek
    exact kx H locs ls hP hD hS hl
  | succ j ih =>
    intro k hk H locs ls hP hD hS hl
    refine lv_iload hx hb dX10_copyRow_3 (lv_at hl 0 rfl) ?_
    refine lv_iload_n hx hb dX10_copyRow_5 rfl (lv_at hl 2 rfl) ?_
    refine lv_icmp_ge (tgt := 31) hx hb dX10_copyRow_6 (by decide) (fun c9 => absurd c9 (show ¬ (30 : Int32) ≤ nI k from nI_ge (b := 30) (by omega) (by omega))) (fun _ => ?_)
    refine lv_aload_n hx hb dX10_copyRow_9 rfl (lv_at hl 1 rfl) ?_
    refine lv_iload_n hx hb dX10_copyRow_10 rfl (lv_at hl 2 rfl) ?_
    refine lv_iload_n hx hb dX10_copyRow_11 rfl (lv_at hl 4 rfl) ?_
    refine lv_imul hx hb dX10_copyRow_12 ?_
    refine pv_i (v := 60) (by decide) ?_
    refine lv_iload hx hb dX10_copyRow_13 (lv_at hl 0 rfl) ?_
    refine lv_iadd hx hb dX10_copyRow_15 ?_
    refine pv_i (v := (nI (60 + k))) (nI_add 60 k) ?_
    refine lv_aload_n hx hb dX10_copyRow_16 rfl (lv_at hl 1 rfl) ?_
    refine lv_iload_n hx hb dX10_copyRow_17 rfl (lv_at hl 2 rfl) ?_
    refine lv_iload_n hx hb dX10_copyRow_18 rfl (lv_at hl 3 rfl) ?_
    refine lv_imul hx hb dX10_copyRow_19 ?_
    refine pv_i (v := 0) (by decide) ?_
    refine lv_iload hx hb dX10_copyRow_20 (lv_at hl 0 rfl) ?_
    refine lv_iadd hx hb dX10_copyRow_22 ?_
    refine pv_i (v := (nI (0 + k))) (nI_add 0 k) ?_
    refine va_iald hx hb hK hP 0 1 rfl rfl (vp_in_nI (by omega) (by decide)) dX10_copyRow_23 ?_
    refine pv_i (v := 0) rfl ?_
    refine va_iast hx hb hK hP hD hS 0 1 rfl rfl (vp_in_nI (by omega) (by decide)) dX10_copyRow_24 (fun H locs hP hD hS => ?_)
    rw [upd0] at hP hD
    have hP : va_P D vwCl [(a0, .inl (cI, 150, .inl (fun _ => 0)))] H := hP
    have hD : va_D AA [(a0, .inl (cI, 150, .inl (fun _ => 0)))] := hD
    refine lv_iinc (v := (nI (k + 1))) (lv' := [(4, .int (nI (k + 1))), (0, .ref a0), (1, .int 30), (2, .int 0), (3, .int 2)]) hx hb dX10_copyRow_25 hl (k := 0) rfl (nI_1 k) (by decide) rfl (fun ls hl => ?_)
    refine lv_goto (tgt := 3) hx hb dX10_copyRow_28 (by decide) ?_
    exact ih (k + 1) (by omega) H locs ls hP hD hS (lv_sub hl [0, 1, 2, 3, 4] rfl)
set_option maxHeartbeats 4000000 in
set_option maxRecDepth 100000 in
theorem kX10_copyRow_12 (l : Launch) (D : va_G) (cB cI cJ cZ cT cR : ClassId) (a0 : Nat) (sz : Nat) : Met l yX10_copyRow (uc yX10_copyRow cX10_copyRow 5 none) (rmL 1 0 0) (va_Pc [.ref a0, .int 30, .int 0, .int 2] (MPre D [(cB, .byte), (cI, .int), (cJ, .long), (cZ, .boolean), (cT, .object RX7), (cR, .object RX3)] [(a0, .inl (cI, 150, .inl (fun _ => 0)))] sz)) (va_Qv (fun (_ : Unit) => True) (MB D [(cB, .byte), (cI, .int), (cJ, .long), (cZ, .boolean), (cT, .object RX7), (cR, .object RX3)] [(a0, .inl (cI, 150, .inl (fun _ => 0)))] sz (fun (u : Unit) => [(a0, .inl (cI, 150, .inl (fun _ => 0)))])) (va_A [(a0, .inl (cI, 150, .inl (fun _ => 0)))] sz)) 0 0 (va_A [(a0, .inl (cI, 150, .inl (fun _ => 0)))] sz) := by
  refine pm (by decide) (Nat.le_of_ble_eq_true rfl) ?_
  intro p e s m below meth c ls hx hb hr hml hown hlk hnm hts hv hl
  have hown : s.vm.findClass RX10 = some m.cls := hown
  have hl : lv_has ls 5 [(0, .ref a0), (1, .int 30), (2, .int 0), (3, .int 2)] := hl
  obtain ⟨hsz, hP, hK, hD0, hE⟩ := hv
  subst hsz
  have hD := hD0.self (sz := s.heap.size)
  obtain ⟨AA, hAe⟩ : ∃ AA, AA = va_A [(a0, .inl (cI, 150, .inl (fun _ => 0)))] s.heap.size := ⟨_, rfl⟩
  rw [← hAe] at hD
  have hA : ∀ q : Nat, s.heap.size ≤ q → AA q := fun q h => by rw [hAe]; exact Or.inr h
  have hS : va_S AA s.heap s.heap [] := va_S.rf
  obtain ⟨-, hAOT, hAOR, hAOI⟩ := id hE
  refine lv_iconst (v := 0) hx hb dX10_copyRow_0 (by decide) ?_
  refine lv_istore (lv' := [(4, .int 0), (0, .ref a0), (1, .int 30), (2, .int 0), (3, .int 2)]) hx hb dX10_copyRow_1 hl (by decide) rfl (fun ls hl => ?_)
  refine lp_X10_copyRow_13 hx hb uc_in hts hown hK (fun H locs ls hP hD hS hl => ?_) 30 0 (by omega) _ _ ls hP hD hS hl
  have hP : va_P D vwCl [(a0, .inl (cI, 150, .inl (fun _ => 0)))] H := hP
  have hD : va_D AA [(a0, .inl (cI, 150, .inl (fun _ => 0)))] := hD
  subst hAe
  have hP9 := hP.sub (ws' := [(a0, .inl (cI, 150, .inl (fun _ => 0)))]) [0] rfl
  have hD9 := hD.sub (ws' := [(a0, .inl (cI, 150, .inl (fun _ => 0)))]) [0] rfl rfl
  exact W.vret hx hb hr (fun t ht hW => ⟨⟨(), rfl, trivial, by rw [ht]; exact hP9, va_K.moved hW.alike hK, hD9⟩, hS.F ht⟩) hS.2.2 dX10_copyRow_31
set_option maxHeartbeats 4000000 in
set_option maxRecDepth 100000 in
theorem lp_X10_copyRow_14 {p : Program} {l : Launch} {e : Env} {R : Room} {s : State} {m : MethodId} {args : Array Value} {below : List Frame} {meth : Method} {c : Code} {cells slots : Nat} {Q : State → Prop} {D : va_G} {AA : Nat → Prop} {H0 : Heap} {Ts : List Cond} {cB cI cJ cZ cT cR : ClassId} {a0 : Nat} (hx : p.tables.exec = Jvm.exec) (hb : c.code = cX10_copyRow) (hT : ∀ w ∈ uw, w ∈ Ts) (hts : ∀ w ∈ Ts, w.before args s = true) (hown : s.vm.findClass RX10 = some m.cls) (hK : va_K D vwCl [(cB, .byte), (cI, .int), (cJ, .long), (cZ, .boolean), (cT, .object RX7), (cR, .object RX3)] s)
    (kx : ∀ (H : Heap) (locs : List Loc) (ls : Array Slot), va_P D vwCl [(a0, .inl (cI, 25, .inl (fun _ => 0)))] H → va_D AA [(a0, .inl (cI, 25, .inl (fun _ => 0)))] → va_S AA H0 H locs → lv_has ls 5 [(4, .int 5), (0, .ref a0), (1, .int 5), (2, .int 0), (3, .int 2)] → W p l e R s m args below meth c H locs cells slots Q (F0 m 31 ls [])) :
    ∀ (j k : Nat), k + j = 5 → ∀ (H : Heap) (locs : List Loc) (ls : Array Slot), va_P D vwCl [(a0, .inl (cI, 25, .inl (fun _ => 0)))] H → va_D AA [(a0, .inl (cI, 25, .inl (fun _ => 0)))] → va_S AA H0 H locs → lv_has ls 5 [(4, .int (nI k)), (0, .ref a0), (1, .int 5), (2, .int 0), (3, .int 2)] → W p l e R s m args below meth c H locs cells slots Q (F0 m 3 ls []) := by
  intro j
  induction j with
  | zero =>
    intro k hk H locs ls hP hD hS hl
    refine lv_iload hx hb dX10_copyRow_3 (lv_at hl 0 rfl) ?_
    refine lv_iload_n hx hb dX10_copyRow_5 rfl (lv_at hl 2 rfl) ?_
    refine lv_icmp_ge (tgt := 31) hx hb dX10_copyRow_6 (by decide) (fun _ => ?_) (fun c9 => absurd (show (5 : Int32) ≤ nI k from nI_le (a := 5) (by omega) (by omega)) c9)
    have ek : k = 5 := by omega
    subst ek
    exact kx H locs ls hP hD hS hl
  | succ j ih =>
    intro k hk H locs ls hP hD hS hl
    refine lv_iload hx hb dX10_copyRow_3 (lv_at hl 0 rfl) ?_
    refine lv_iload_n hx hb dX10_copyRow_5 rfl (lv_at hl 2 rfl) ?_
    refine lv_icmp_ge (tgt := 31) hx hb dX10_copyRow_6 (by decide) (fun c9 => absurd c9 (show ¬ (5 : Int32) ≤ nI k from nI_ge (b := 5) (by omega) (by omega))) (fun _ => ?_)
    refine lv_aload_n hx hb dX10_copyRow_9 rfl (lv_at hl 1 rfl) ?_
    refine lv_iload_n hx hb dX10_copyRow_10 rfl (lv_at hl 2 rfl) ?_
    refine lv_iload_n hx hb dX10_copyRow_11 rfl (lv_at hl 4 rfl) ?_
    refine lv_imul hx hb dX10_copyRow_12 ?_
    refine pv_i (v := 10) (by decide) ?_
    refine lv_iload hx hb dX10_copyRow_13 (lv_at hl 0 rfl) ?_
    refine lv_iadd hx hb dX10_copyRow_15 ?_
    refine pv_i (v := (nI (10 + k))) (nI_add 10 k) ?_
    refine lv_aload_n hx hb dX10_copyRow_16 rfl (lv_at hl 1 rfl) ?_
    refine lv_iload_n hx hb dX10_copyRow_17 rfl (lv_at hl 2 rfl) ?_
    refine lv_iload_n hx hb dX10_copyRow_18 rfl (lv_at hl 3 rfl) ?_
    refine lv_imul hx hb dX10_copyRow_19 ?_
    refine pv_i (v := 0) (by decide) ?_
    refine lv_iload hx hb dX10_copyRow_20 (lv_at hl 0 rfl) ?_
    refine lv_iadd hx hb dX10_copyRow_22 ?_
    refine pv_i (v := (nI (0 + k))) (nI_add 0 k) ?_
    refine va_iald hx hb hK hP 0 1 rfl rfl (vp_in_nI (by omega) (by decide)) dX10_copyRow_23 ?_
    refine pv_i (v := 0) rfl ?_
    refine va_iast hx hb hK hP hD hS 0 1 rfl rfl (vp_in_nI (by omega) (by decide)) dX10_copyRow_24 (fun H locs hP hD hS => ?_)
    rw [upd0] at hP hD
    have hP : va_P D vwCl [(a0, .inl (cI, 25, .inl (fun _ => 0)))] H := hP
    have hD : va_D AA [(a0, .inl (cI, 25, .inl (fun _ => 0)))] := hD
    refine lv_iinc (v := (nI (k + 1))) (lv' := [(4, .int (nI (k + 1))), (0, .ref a0), (1, .int 5), (2, .int 0), (3, .int 2)]) hx hb dX10_copyRow_25 hl (k := 0) rfl (nI_1 k) (by decide) rfl (fun ls hl => ?_)
    refine lv_goto (tgt := 3) hx hb dX10_copyRow_28 (by decide) ?_
    exact ih (k + 1) (by omega) H locs ls hP hD hS (lv_sub hl [0, 1, 2, 3, 4] rfl)
set_option maxHeartbeats 4000000 in
set_option maxRecDepth 100000 in
theorem kX10_copyRow_13 (l : Launch) (D : va_G) (cB cI cJ cZ cT cR : ClassId) (a0 : Nat) (sz : Nat) : Met l yX10_copyRow (uc yX10_copyRow cX10_copyRow 5 none) (rmL 1 0 0) (va_Pc [.ref a0, .int 5, .int 0, .int 2] (MPre D [(cB, .byte), (cI, .int), (cJ, .long), (cZ, .boolean), (cT, .object RX7), (cR, .object RX3)] [(a0, .inl (cI, 25, .inl (fun _ => 0)))] sz)) (va_Qv (fun (_ : Unit) => True) (MB D [(cB, .byte), (cI, .int), (cJ, .long), (cZ, .boolean), (cT, .object RX7), (cR, .object RX3)] [(a0, .inl (cI, 25, .inl (fun _ => 0)))] sz (fun (u : Unit) => [(a0, .inl (cI, 25, .inl (fun _ => 0)))])) (va_A [(a0, .inl (cI, 25, .inl (fun _ => 0)))] sz)) 0 0 (va_A [(a0, .inl (cI, 25, .inl (fun _ => 0)))] sz) := by
  refine pm (by decide) (Nat.le_of_ble_eq_true rfl) ?_
  intro p e s m below meth c ls hx hb hr hml hown hlk hnm hts hv hl
  have hown : s.vm.findClass RX10 = some m.cls := hown
  have hl : lv_has ls 5 [(0, .ref a0), (1, .int 5), (2, .int 0), (3, .int 2)] := hl
  obtain ⟨hsz, hP, hK, hD0, hE⟩ := hv
  subst hsz
  have hD := hD0.self (sz := s.heap.size)
  obtain ⟨AA, hAe⟩ : ∃ AA, AA = va_A [(a0, .inl (cI, 25, .inl (fun _ => 0)))] s.heap.size := ⟨_, rfl⟩
  rw [← hAe] at hD
  have hA : ∀ q : Nat, s.heap.size ≤ q → AA q := fun q h => by rw [hAe]; exact Or.inr h
  have hS : va_S AA s.heap s.heap [] := va_S.rf
  obtain ⟨-, hAOT, hAOR, hAOI⟩ := id hE
  refine lv_iconst (v := 0) hx hb dX10_copyRow_0 (by decide) ?_
  refine lv_istore (lv' := [(4, .int 0), (0, .ref a0), (1, .int 5), (2, .int 0), (3, .int 2)]) hx hb dX10_copyRow_1 hl (by decide) rfl (fun ls hl => ?_)
  refine lp_X10_copyRow_14 hx hb uc_in hts hown hK (fun H locs ls hP hD hS hl => ?_) 5 0 (by omega) _ _ ls hP hD hS hl
  have hP : va_P D vwCl [(a0, .inl (cI, 25, .inl (fun _ => 0)))] H := hP
  have hD : va_D AA [(a0, .inl (cI, 25, .inl (fun _ => 0)))] := hD
  subst hAe
  have hP9 := hP.sub (ws' := [(a0, .inl (cI, 25, .inl (fun _ => 0)))]) [0] rfl
  have hD9 := hD.sub (ws' := [(a0, .inl (cI, 25, .inl (fun _ => 0)))]) [0] rfl rfl
  exact W.vret hx hb hr (fun t ht hW => ⟨⟨(), rfl, trivial, by rw [ht]; exact hP9, va_K.moved hW.alike hK, hD9⟩, hS.F ht⟩) hS.2.2 dX10_copyRow_31
set_option maxHeartbeats 4000000 in
set_option maxRecDepth 100000 in
theorem lp_X10_copyRow_15 {p : Program} {l : Launch} {e : Env} {R : Room} {s : State} {m : MethodId} {args : Array Value} {below : List Frame} {meth : Method} {c : Code} {cells slots : Nat} {Q : State → Prop} {D : va_G} {AA : Nat → Prop} {H0 : Heap} {Ts : List Cond} {cB cI cJ cZ cT cR : ClassId} {a0 : Nat} (hx : p.tables.exec = Jvm.exec) (hb : c.code = cX10_copyRow) (hT : ∀ w ∈ uw, w ∈ Ts) (hts : ∀ w ∈ Ts, w.before args s = true) (hown : s.vm.findClass RX10 = some m.cls) (hK : va_K D vwCl [(cB, .byte), (cI, .int), (cJ, .long), (cZ, .boolean), (cT, .object RX7), (cR, .object RX3)] s)
    (kx : ∀ (H : Heap) (locs : List Loc) (ls : Array Slot), va_P D vwCl [(a0, .inl (cI, 600, .inl (fun _ => 0)))] H → va_D AA [(a0, .inl (cI, 600, .inl (fun _ => 0)))] → va_S AA H0 H locs → lv_has ls 5 [(4, .int 120), (0, .ref a0), (1, .int 120), (2, .int 0), (3, .int 2)] → W p l e R s m args below meth c H locs cells slots Q (F0 m 31 ls [])) :
    ∀ (j k : Nat), k + j = 120 → ∀ (H : Heap) (locs : List Loc) (ls : Array Slot), va_P D vwCl [(a0, .inl (cI, 600, .inl (fun _ => 0)))] H → va_D AA [(a0, .inl (cI, 600, .inl (fun _ => 0)))] → va_S AA H0 H locs → lv_has ls 5 [(4, .int (nI k)), (0, .ref a0), (1, .int 120), (2, .int 0), (3, .int 2)] → W p l e R s m args below meth c H locs cells slots Q (F0 m 3 ls []) := by
  intro j
  induction j with
  | zero =>
    intro k hk H locs ls hP hD hS hl
    refine lv_iload hx hb dX10_copyRow_3 (lv_at hl 0 rfl) ?_
    refine lv_iload_n hx hb dX10_copyRow_5 rfl (lv_at hl 2 rfl) ?_
    refine lv_icmp_ge (tgt := 31) hx hb dX10_copyRow_6 (by decide) (fun _ => ?_) (fun c9 => absurd (show (120 : Int32) ≤ nI k from nI_le (a := 120) (by omega) (by omega)) c9)
    have ek : k = 120 := by omega
    subst ek
    exact kx H locs ls hP hD hS hl
  | succ j ih =>
    intro k hk H locs ls hP hD hS hl
    refine lv_iload hx hb dX10_copyRow_3 (lv_at hl 0 rfl) ?_
    refine lv_iload_n hx hb dX10_copyRow_5 rfl (lv_at hl 2 rfl) ?_
    refine lv_icmp_ge (tgt := 31) hx hb dX10_copyRow_6 (by decide) (fun c9 => absurd c9 (show ¬ (120 : Int32) ≤ nI k from nI_ge (b := 120) (by omega) (by omega))) (fun _ => ?_)
    refine lv_aload_n hx hb dX10_copyRow_9 rfl (lv_at hl 1 rfl) ?_
    refine lv_iload_n hx hb dX10_copyRow_10 rfl (lv_at hl 2 rfl) ?_
    refine lv_iload_n hx hb dX10_copyRow_11 rfl (lv_at hl 4 rfl) ?_
    refine lv_imul hx hb dX10_copyRow_12 ?_
    refine pv_i (v := 240) (by decide) ?_
    refine lv_iload hx hb dX10_copyRow_13 (lv_at hl 0 rfl) ?_
    refine lv_iadd hx hb dX10_copyRow_15 ?_
    refine pv_i (v := (nI (240 + k))) (nI_add 240 k) ?_
    refine lv_aload_n hx hb dX10_copyRow_16 rfl (lv_at hl 1 rfl) ?_
    refine lv_iload_n hx hb dX10_copyRow_17 rfl (lv_at hl 2 rfl) ?_
    refine lv_iload_n hx hb dX10_copyRow_18 rfl (lv_at hl 3 rfl) ?_
    refine lv_imul hx hb dX10_copyRow_19 ?_
    refine pv_i (v := 0) (by decide) ?_
    refine lv_iload hx hb dX10_copyRow_20 (lv_at hl 0 rfl) ?_
    refine lv_iadd hx hb dX10_copyRow_22 ?_
    refine pv_i (v := (nI (0 + k))) (nI_add 0 k) ?_
    refine va_iald hx hb hK hP 0 1 rfl rfl (vp_in_nI (by omega) (by decide)) dX10_copyRow_23 ?_
    refine pv_i (v := 0) rfl ?_
    refine va_iast hx hb hK hP hD hS 0 1 rfl rfl (vp_in_nI (by omega) (by decide)) dX10_copyRow_24 (fun H locs hP hD hS => ?_)
    rw [upd0] at hP hD
    have hP : va_P D vwCl [(a0, .inl (cI, 600, .inl (fun _ => 0)))] H := hP
    have hD : va_D AA [(a0, .inl (cI, 600, .inl (fun _ => 0)))] := hD
    refine lv_iinc (v := (nI (k + 1))) (lv' := [(4, .int (nI (k + 1))), (0, .ref a0), (1, .int 120), (2, .int 0), (3, .int 2)]) hx hb dX10_copyRow_25 hl (k := 0) rfl (nI_1 k) (by decide) rfl (fun ls hl => ?_)
    refine lv_goto (tgt := 3) hx hb dX10_copyRow_28 (by decide) ?_
    exact ih (k + 1) (by omega) H locs ls hP hD hS (lv_sub hl [0, 1, 2, 3, 4] rfl)
