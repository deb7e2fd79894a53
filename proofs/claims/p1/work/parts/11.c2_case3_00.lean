set_option maxHeartbeats 4000000 in
set_option maxRecDepth 100000 in
theorem kX9_fault_0 (l : Launch) (D : va_G) (cB cI cJ cZ cT cR : ClassId) (a0 a1 a2 a3 a4 a5 a6 a7 a8 a9 a10 a11 a12 : Nat) : Met l yX9_fault (uc yX9_fault cX9_fault 2 (some .int)) (rmL 1 0 0) (va_Pc [.ref a0, .int 0] (RPre D [(cB, .byte), (cI, .int), (cJ, .long), (cZ, .boolean), (cT, .object RX7), (cR, .object RX3)] [(a0, .inr (9, [.ref a1, .ref a2, .ref a3, .ref a4, .int 0, .ref a5, .ref a6, .ref a7, .ref a8, .ref a9, .ref a10, .ref a11])), (a1, .inr (6, [.ref a12, .int 0, .int 0, .int (-1), .int 0, .int 0, .int 0, .int 0]))])) (QcRead 0) 0 0 (fun _ => False) := by
  refine pm (by decide) (Nat.le_of_ble_eq_true rfl) ?_
  intro p e s m below meth c ls hx hb hr hml hown hlk hnm hts hv hl
  have hown : s.vm.findClass RX9 = some m.cls := hown
  have hl : lv_has ls 2 [(0, .ref a0), (1, .int 0)] := hl
  obtain ⟨hP, hK⟩ := hv
  refine lv_iload_n hx hb dX9_fault_0 rfl (lv_at hl 1 rfl) ?_
  refine lv_lookup (off := 27) (tgt := 28) hx hb dX9_fault_1 (by decide) (by decide) (by decide) ?_
  refine lv_aload_n hx hb dX9_fault_28 rfl (lv_at hl 0 rfl) ?_
  refine va_get (D := D) (ci := 9) (v := .ref a1) (C := RX9) (T := TX9) (N := 12) hx hb hts (fun w h => uc_in w (inX9 w h)) hown hK hP 0 rfl rfl 0 (by decide) (hts _ (uc_in _ q_f383)) (fun _ h9 => h9) rfl dX9_fault_29 ?_
  refine va_get (D := D) (ci := 6) (v := .int 0) (C := RX6) (T := TX6) (N := 8) hx hb hts (fun w h => uc_in w (inX6 w h)) hown hK hP 1 rfl rfl 2 (by decide) (hts _ (uc_in _ q_f37)) (fun _ h9 => h9) rfl dX9_fault_32 ?_
  exact W.iret hx hb hr (fun t ht _ => ⟨rfl, ht⟩) (fun _ h => by cases h) dX9_fault_35
set_option maxHeartbeats 4000000 in
set_option maxRecDepth 100000 in
theorem kX10_fault_0 (l : Launch) (D : va_G) (cB cI cJ cZ cT cR : ClassId) (a0 a1 a2 a3 a4 a5 a6 a7 a8 a9 a10 a11 a12 a13 a14 a15 a16 a17 a18 : Nat) (sz : Nat) : Met l yX10_fault (uc yX10_fault cX10_fault 2 (some .int)) (rmL 1 0 0) (va_Pc [.ref a0, .int 0] (MPre D [(cB, .byte), (cI, .int), (cJ, .long), (cZ, .boolean), (cT, .object RX7), (cR, .object RX3)] [(a0, .inr (10, [.int 0, .ref a1, .ref a2, .ref a3, .ref a4, .ref a5, .int 0, .int 0, .int 0, .int 0, .int 0, .long 0, .int 0, .int 0, .int 0, .int (-1), .ref a6, .ref a7, .ref a8, .ref a9, .ref a10, .ref a11, .ref a12, .ref a13, .int 0, .int 0, .ref a14, .ref a15, .int 0, .int 0, .int 0, .ref a16, .ref a17, .int 0, .int 0, .int 0, .int 0, .int 0, .ref a18, .int 0, .int 0, .int 0]))] sz)) (va_Qi (fun (r : Int32) (_ : Unit) => r = 0) (MB D [(cB, .byte), (cI, .int), (cJ, .long), (cZ, .boolean), (cT, .object RX7), (cR, .object RX3)] [(a0, .inr (10, [.int 0, .ref a1, .ref a2, .ref a3, .ref a4, .ref a5, .int 0, .int 0, .int 0, .int 0, .int 0, .long 0, .int 0, .int 0, .int 0, .int (-1), .ref a6, .ref a7, .ref a8, .ref a9, .ref a10, .ref a11, .ref a12, .ref a13, .int 0, .int 0, .ref a14, .ref a15, .int 0, .int 0, .int 0, .ref a16, .ref a17, .int 0, .int 0, .int 0, .int 0, .int 0, .ref a18, .int 0, .int 0, .int 0]))] sz (fun (u : Unit) => [(a0, .inr (10, [.int 0, .ref a1, .ref a2, .ref a3, .ref a4, .ref a5, .int 0, .int 0, .int 0, .int 0, .int 0, .long 0, .int 0, .int 0, .int 0, .int (-1), .ref a6, .ref a7, .ref a8, .ref a9, .ref a10, .ref a11, .ref a12, .ref a13, .int 0, .int 0, .ref a14, .ref a15, .int 0, .int 0, .int 0, .ref a16, .ref a17, .int 0, .int 0, .int 0, .int 0, .int 0, .ref a18, .int 0, .int 0, .int 0]))])) (va_A [(a0, .inr (10, [.int 0, .ref a1, .ref a2, .ref a3, .ref a4, .ref a5, .int 0, .int 0, .int 0, .int 0, .int 0, .long 0, .int 0, .int 0, .int 0, .int (-1), .ref a6, .ref a7, .ref a8, .ref a9, .ref a10, .ref a11, .ref a12, .ref a13, .int 0, .int 0, .ref a14, .ref a15, .int 0, .int 0, .int 0, .ref a16, .ref a17, .int 0, .int 0, .int 0, .int 0, .int 0, .ref a18, .int 0, .int 0, .int 0]))] sz)) 0 0 (va_A [(a0, .inr (10, [.int 0, .ref a1, .ref a2, .ref a3, .ref a4, .ref a5, .int 0, .int 0, .int 0, .int 0, .int 0, .long 0, .int 0, .int 0, .int 0, .int (-1), .ref a6, .ref a7, .ref a8, .ref a9, .ref a10, .ref a11, .ref a12, .ref a13, .int 0, .int 0, .ref a14, .ref a15, .int 0, .int 0, .int 0, .ref a16, .ref a17, .int 0, .int 0, .int 0, .int 0, .int 0, .ref a18, .int 0, .int 0, .int 0]))] sz) := by
  refine pm (by decide) (Nat.le_of_ble_eq_true rfl) ?_
  intro p e s m below meth c ls hx hb hr hml hown hlk hnm hts hv hl
  have hown : s.vm.findClass RX10 = some m.cls := hown
  have hl : lv_has ls 2 [(0, .ref a0), (1, .int 0)] := hl
  obtain ⟨hsz, hP, hK, hD0, hE⟩ := hv
  subst hsz
  have hD := hD0.self (sz := s.heap.size)
  obtain ⟨AA, hAe⟩ : ∃ AA, AA = va_A [(a0, .inr (10, [.int 0, .ref a1, .ref a2, .ref a3, .ref a4, .ref a5, .int 0, .int 0, .int 0, .int 0, .int 0, .long 0, .int 0, .int 0, .int 0, .int (-1), .ref a6, .ref a7, .ref a8, .ref a9, .ref a10, .ref a11, .ref a12, .ref a13, .int 0, .int 0, .ref a14, .ref a15, .int 0, .int 0, .int 0, .ref a16, .ref a17, .int 0, .int 0, .int 0, .int 0, .int 0, .ref a18, .int 0, .int 0, .int 0]))] s.heap.size := ⟨_, rfl⟩
  rw [← hAe] at hD
  have hA : ∀ q : Nat, s.heap.size ≤ q → AA q := fun q h => by rw [hAe]; exact Or.inr h
  have hS : va_S AA s.heap s.heap [] := va_S.rf
  obtain ⟨-, hAOT, hAOR, hAOI⟩ := id hE
  refine lv_aload_n hx hb dX10_fault_0 rfl (lv_at hl 0 rfl) ?_
  refine lv_iconst (v := 0) hx hb dX10_fault_1 (by decide) ?_
  refine va_put (D := D) (ci := 10) (v := .int 0) (ty := .int) (C := RX10) (T := TX10) (N := 42) hx hb hts (fun w h => uc_in w (inX10 w h)) tyX10 tyX10_ok nmX10 hown hK hP hD hS 0 rfl rfl 0 (by decide) (hts _ (uc_in _ q_f1188)) (fun _ h9 => h9) rfl (by decide +kernel) rfl rfl (Nat.le_of_ble_eq_true rfl) dX10_fault_2 (fun H locs hP hD hS => ?_)
  have hP : va_P D vwCl [(a0, .inr (10, [.int 0, .ref a1, .ref a2, .ref a3, .ref a4, .ref a5, .int 0, .int 0, .int 0, .int 0, .int 0, .long 0, .int 0, .int 0, .int 0, .int (-1), .ref a6, .ref a7, .ref a8, .ref a9, .ref a10, .ref a11, .ref a12, .ref a13, .int 0, .int 0, .ref a14, .ref a15, .int 0, .int 0, .int 0, .ref a16, .ref a17, .int 0, .int 0, .int 0, .int 0, .int 0, .ref a18, .int 0, .int 0, .int 0]))] H := hP
  have hD : va_D AA [(a0, .inr (10, [.int 0, .ref a1, .ref a2, .ref a3, .ref a4, .ref a5, .int 0, .int 0, .int 0, .int 0, .int 0, .long 0, .int 0, .int 0, .int 0, .int (-1), .ref a6, .ref a7, .ref a8, .ref a9, .ref a10, .ref a11, .ref a12, .ref a13, .int 0, .int 0, .ref a14, .ref a15, .int 0, .int 0, .int 0, .ref a16, .ref a17, .int 0, .int 0, .int 0, .int 0, .int 0, .ref a18, .int 0, .int 0, .int 0]))] := hD
  refine lv_iload_n hx hb dX10_fault_5 rfl (lv_at hl 1 rfl) ?_
  refine lv_if_ne (tgt := 16) hx hb dX10_fault_6 (by decide) (fun c9 => absurd (by decide) c9) (fun _ => ?_)
  refine lv_aload_n hx hb dX10_fault_9 rfl (lv_at hl 0 rfl) ?_
  refine va_get (D := D) (ci := 10) (v := .int 0) (C := RX10) (T := TX10) (N := 42) hx hb hts (fun w h => uc_in w (inX10 w h)) hown hK hP 0 rfl rfl 14 (by decide) (hts _ (uc_in _ q_f1202)) (fun _ h9 => h9) rfl dX10_fault_10 ?_
  refine lv_goto (tgt := 29) hx hb dX10_fault_13 (by decide) ?_
  subst hAe
  have hP9 := hP.sub (ws' := [(a0, .inr (10, [.int 0, .ref a1, .ref a2, .ref a3, .ref a4, .ref a5, .int 0, .int 0, .int 0, .int 0, .int 0, .long 0, .int 0, .int 0, .int 0, .int (-1), .ref a6, .ref a7, .ref a8, .ref a9, .ref a10, .ref a11, .ref a12, .ref a13, .int 0, .int 0, .ref a14, .ref a15, .int 0, .int 0, .int 0, .ref a16, .ref a17, .int 0, .int 0, .int 0, .int 0, .int 0, .ref a18, .int 0, .int 0, .int 0]))]) [0] rfl
  have hD9 := hD.sub (ws' := [(a0, .inr (10, [.int 0, .ref a1, .ref a2, .ref a3, .ref a4, .ref a5, .int 0, .int 0, .int 0, .int 0, .int 0, .long 0, .int 0, .int 0, .int 0, .int (-1), .ref a6, .ref a7, .ref a8, .ref a9, .ref a10, .ref a11, .ref a12, .ref a13, .int 0, .int 0, .ref a14, .ref a15, .int 0, .int 0, .int 0, .ref a16, .ref a17, .int 0, .int 0, .int 0, .int 0, .int 0, .ref a18, .int 0, .int 0, .int 0]))]) [0] rfl rfl
  exact W.iret hx hb hr (fun t ht hW => ⟨⟨0, (), rfl, rfl, by rw [ht]; exact hP9, va_K.moved hW.alike hK, hD9⟩, hS.F ht⟩) hS.2.2 dX10_fault_29
set_option maxHeartbeats 4000000 in
set_option maxRecDepth 100000 in
theorem kX9_fault_1 (l : Launch) (D : va_G) (cB cI cJ cZ cT cR : ClassId) (a0 a1 a2 a3 a4 a5 a6 a7 a8 a9 a10 a11 a12 : Nat) : Met l yX9_fault (uc yX9_fault cX9_fault 2 (some .int)) (rmL 1 0 0) (va_Pc [.ref a0, .int 1] (RPre D [(cB, .byte), (cI, .int), (cJ, .long), (cZ, .boolean), (cT, .object RX7), (cR, .object RX3)] [(a0, .inr (9, [.ref a1, .ref a2, .ref a3, .ref a4, .int 0, .ref a5, .ref a6, .ref a7, .ref a8, .ref a9, .ref a10, .ref a11])), (a1, .inr (6, [.ref a12, .int 0, .int 0, .int (-1), .int 0, .int 0, .int 0, .int 0]))])) (QcRead (-1)) 0 0 (fun _ => False) := by
  refine pm (by decide) (Nat.le_of_ble_eq_true rfl) ?_
  intro p e s m below meth c ls hx hb hr hml hown hlk hnm hts hv hl
  have hown : s.vm.findClass RX9 = some m.cls := hown
  have hl : lv_has ls 2 [(0, .ref a0), (1, .int 1)] := hl
  obtain ⟨hP, hK⟩ := hv
  refine lv_iload_n hx hb dX9_fault_0 rfl (lv_at hl 1 rfl) ?_
  refine lv_lookup (off := 35) (tgt := 36) hx hb dX9_fault_1 (by decide) (by decide) (by decide) ?_
  refine lv_aload_n hx hb dX9_fault_36 rfl (lv_at hl 0 rfl) ?_
  refine va_get (D := D) (ci := 9) (v := .ref a1) (C := RX9) (T := TX9) (N := 12) hx hb hts (fun w h => uc_in w (inX9 w h)) hown hK hP 0 rfl rfl 0 (by decide) (hts _ (uc_in _ q_f383)) (fun _ h9 => h9) rfl dX9_fault_37 ?_
  refine va_get (D := D) (ci := 6) (v := .int (-1)) (C := RX6) (T := TX6) (N := 8) hx hb hts (fun w h => uc_in w (inX6 w h)) hown hK hP 1 rfl rfl 3 (by decide) (hts _ (uc_in _ q_f39)) (fun _ h9 => h9) rfl dX9_fault_40 ?_
  exact W.iret hx hb hr (fun t ht _ => ⟨rfl, ht⟩) (fun _ h => by cases h) dX9_fault_43
set_option maxHeartbeats 4000000 in
set_option maxRecDepth 100000 in
theorem kX10_fault_1 (l : Launch) (D : va_G) (cB cI cJ cZ cT cR : ClassId) (a0 a1 a2 a3 a4 a5 a6 a7 a8 a9 a10 a11 a12 a13 a14 a15 a16 a17 a18 : Nat) (sz : Nat) : Met l yX10_fault (uc yX10_fault cX10_fault 2 (some .int)) (rmL 1 0 0) (va_Pc [.ref a0, .int 1] (MPre D [(cB, .byte), (cI, .int), (cJ, .long), (cZ, .boolean), (cT, .object RX7), (cR, .object RX3)] [(a0, .inr (10, [.int 0, .ref a1, .ref a2, .ref a3, .ref a4, .ref a5, .int 0, .int 0, .int 0, .int 0, .int 0, .long 0, .int 0, .int 0, .int 0, .int (-1), .ref a6, .ref a7, .ref a8, .ref a9, .ref a10, .ref a11, .ref a12, .ref a13, .int 0, .int 0, .ref a14, .ref a15, .int 0, .int 0, .int 0, .ref a16, .ref a17, .int 0, .int 0, .int 0, .int 0, .int 0, .ref a18, .int 0, .int 0, .int 0]))] sz)) (va_Qi (fun (r : Int32) (_ : Unit) => r = (-1)) (MB D [(cB, .byte), (cI, .int), (cJ, .long), (cZ, .boolean), (cT, .object RX7), (cR, .object RX3)] [(a0, .inr (10, [.int 0, .ref a1, .ref a2, .ref a3, .ref a4, .ref a5, .int 0, .int 0, .int 0, .int 0, .int 0, .long 0, .int 0, .int 0, .int 0, .int (-1), .ref a6, .ref a7, .ref a8, .ref a9, .ref a10, .ref a11, .ref a12, .ref a13, .int 0, .int 0, .ref a14, .ref a15, .int 0, .int 0, .int 0, .ref a16, .ref a17, .int 0, .int 0, .int 0, .int 0, .int 0, .ref a18, .int 0, .int 0, .int 0]))] sz (fun (u : Unit) => [(a0, .inr (10, [.int 0, .ref a1, .ref a2, .ref a3, .ref a4, .ref a5, .int 0, .int 0, .int 0, .int 0, .int 0, .long 0, .int 0, .int 0, .int 0, .int (-1), .ref a6, .ref a7, .ref a8, .ref a9, .ref a10, .ref a11, .ref a12, .ref a13, .int 0, .int 0, .ref a14, .ref a15, .int 0, .int 0, .int 0, .ref a16, .ref a17, .int 0, .int 0, .int 0, .int 0, .int 0, .ref a18, .int 0, .int 0, .int 0]))])) (va_A [(a0, .inr (10, [.int 0, .ref a1, .ref a2, .ref a3, .ref a4, .ref a5, .int 0, .int 0, .int 0, .int 0, .int 0, .long 0, .int 0, .int 0, .int 0, .int (-1), .ref a6, .ref a7, .ref a8, .ref a9, .ref a10, .ref a11, .ref a12, .ref a13, .int 0, .int 0, .ref a14, .ref a15, .int 0, .int 0, .int 0, .ref a16, .ref a17, .int 0, .int 0, .int 0, .int 0, .int 0, .ref a18, .int 0, .int 0, .int 0]))] sz)) 0 0 (va_A [(a0, .inr (10, [.int 0, .ref a1, .ref a2, .ref a3, .ref a4, .ref a5, .int 0, .int 0, .int 0, .int 0, .int 0, .long 0, .int 0, .int 0, .int 0, .int (-1), .ref a6, .ref a7, .ref a8, .ref a9, .ref a10, .ref a11, .ref a12, .ref a13, .int 0, .int 0, .ref a14, .ref a15, .int 0, .int 0, .int 0, .ref a16, .ref a17, .int 0, .int 0, .int 0, .int 0, .int 0, .ref a18, .int 0, .int 0, .int 0]))] sz) := by
  refine pm (by decide) (Nat.le_of_ble_eq_true rfl) ?_
  intro p e s m below meth c ls hx hb hr hml hown hlk hnm hts hv hl
  have hown : s.vm.findClass RX10 = some m.cls := hown
  have hl : lv_has ls 2 [(0, .ref a0), (1, .int 1)] := hl
  obtain ⟨hsz, hP, hK, hD0, hE⟩ := hv
  subst hsz
  have hD := hD0.self (sz := s.heap.size)
  obtain ⟨AA, hAe⟩ : ∃ AA, AA = va_A [(a0, .inr (10, [.int 0, .ref a1, .ref a2, .ref a3, .ref a4, .ref a5, .int 0, .int 0, .int 0, .int 0, .int 0, .long 0, .int 0, .int 0, .int 0, .int (-1), .ref a6, .ref a7, .ref a8, .ref a9, .ref a10, .ref a11, .ref a12, .ref a13, .int 0, .int 0, .ref a14, .ref a15, .int 0, .int 0, .int 0, .ref a16, .ref a17, .int 0, .int 0, .int 0, .int 0, .int 0, .ref a18, .int 0, .int 0, .int 0]))] s.heap.size := ⟨_, rfl⟩
  rw [← hAe] at hD
  have hA : ∀ q : Nat, s.heap.size ≤ q → AA q := fun q h => by rw [hAe]; exact Or.inr h
  have hS : va_S AA s.heap s.heap [] := va_S.rf
  obtain ⟨-, hAOT, hAOR, hAOI⟩ := id hE
  refine lv_aload_n hx hb dX10_fault_0 rfl (lv_at hl 0 rfl) ?_
  refine lv_iconst (v := 0) hx hb dX10_fault_1 (by decide) ?_
  refine va_put (D := D) (ci := 10) (v := .int 0) (ty := .int) (C := RX10) (T := TX10) (N := 42) hx hb hts (fun w h => uc_in w (inX10 w h)) tyX10 tyX10_ok nmX10 hown hK hP hD hS 0 rfl rfl 0 (by decide) (hts _ (uc_in _ q_f1188)) (fun _ h9 => h9) rfl (by decide +kernel) rfl rfl (Nat.le_of_ble_eq_true rfl) dX10_fault_2 (fun H locs hP hD hS => ?_)
  have hP : va_P D vwCl [(a0, .inr (10, [.int 0, .ref a1, .ref a2, .ref a3, .ref a4, .ref a5, .int 0, .int 0, .int 0, .int 0, .int 0, .long 0, .int 0, .int 0, .int 0, .int (-1), .ref a6, .ref a7, .ref a8, .ref a9, .ref a10, .ref a11, .ref a12, .ref a13, .int 0, .int 0, .ref a14, .ref a15, .int 0, .int 0, .int 0, .ref a16, .ref a17, .int 0, .int 0, .int 0, .int 0, .int 0, .ref a18, .int 0, .int 0, .int 0]))] H := hP
  have hD : va_D AA [(a0, .inr (10, [.int 0, .ref a1, .ref a2, .ref a3, .ref a4, .ref a5, .int 0, .int 0, .int 0, .int 0, .int 0, .long 0, .int 0, .int 0, .int 0, .int (-1), .ref a6, .ref a7, .ref a8, .ref a9, .ref a10, .ref a11, .ref a12, .ref a13, .int 0, .int 0, .ref a14, .ref a15, .int 0, .int 0, .int 0, .ref a16, .ref a17, .int 0, .int 0, .int 0, .int 0, .int 0, .ref a18, .int 0, .int 0, .int 0]))] := hD
  refine lv_iload_n hx hb dX10_fault_5 rfl (lv_at hl 1 rfl) ?_
  refine lv_if_ne (tgt := 16) hx hb dX10_fault_6 (by decide) (fun _ => ?_) (fun c9 => absurd c9 (by decide))
  refine lv_iload_n hx hb dX10_fault_16 rfl (lv_at hl 1 rfl) ?_
  refine lv_iconst (v := 1) hx hb dX10_fault_17 (by decide) ?_
  refine lv_icmp_ne (tgt := 28) hx hb dX10_fault_18 (by decide) (fun c9 => absurd (by decide) c9) (fun _ => ?_)
  refine lv_aload_n hx hb dX10_fault_21 rfl (lv_at hl 0 rfl) ?_
  refine va_get (D := D) (ci := 10) (v := .int (-1)) (C := RX10) (T := TX10) (N := 42) hx hb hts (fun w h => uc_in w (inX10 w h)) hown hK hP 0 rfl rfl 15 (by decide) (hts _ (uc_in _ q_f1203)) (fun _ h9 => h9) rfl dX10_fault_22 ?_
  refine lv_goto (tgt := 29) hx hb dX10_fault_25 (by decide) ?_
  subst hAe
  have hP9 := hP.sub (ws' := [(a0, .inr (10, [.int 0, .ref a1, .ref a2, .ref a3, .ref a4, .ref a5, .int 0, .int 0, .int 0, .int 0, .int 0, .long 0, .int 0, .int 0, .int 0, .int (-1), .ref a6, .ref a7, .ref a8, .ref a9, .ref a10, .ref a11, .ref a12, .ref a13, .int 0, .int 0, .ref a14, .ref a15, .int 0, .int 0, .int 0, .ref a16, .ref a17, .int 0, .int 0, .int 0, .int 0, .int 0, .ref a18, .int 0, .int 0, .int 0]))]) [0] rfl
  have hD9 := hD.sub (ws' := [(a0, .inr (10, [.int 0, .ref a1, .ref a2, .ref a3, .ref a4, .ref a5, .int 0, .int 0, .int 0, .int 0, .int 0, .long 0, .int 0, .int 0, .int 0, .int (-1), .ref a6, .ref a7, .ref a8, .ref a9, .ref a10, .ref a11, .ref a12, .ref a13, .int 0, .int 0, .ref a14, .ref a15, .int 0, .int 0, .int 0, .ref a16, .ref a17, .int 0, .int 0, .int 0, .int 0, .int 0, .ref a18, .int 0, .int 0, .int 0]))]) [0] rfl rfl
  exact W.iret hx hb hr (fun t ht hW => ⟨⟨(-1), (), rfl, rfl, by rw [ht]; exact hP9, va_K.moved hW.alike hK, hD9⟩, hS.F ht⟩) hS.2.2 dX10_fault_29
set_option maxHeartbeats 4000000 in
set_option maxRecDepth 100000 in
theorem kX9_fault_2 (l : Launch) (D : va_G) (cB cI cJ cZ cT cR : ClassId) (a0 a1 a2 a3 a4 a5 a6 a7 a8 a9 a10 a11 : Nat) (x0 : Int32) (hy0 : ¬ (x0 = 0)) (hy1 : ¬ (x0 = 1)) : Met l yX9_fault (uc yX9_fault cX9_fault 2 (some .int)) (rmL 1 0 0) (va_Pc [.ref a0, .int x0] (RPre D [(cB, .byte), (cI, .int), (cJ, .long), (cZ, .boolean), (cT, .object RX7), (cR, .object RX3)] [(a0, .inr (9, [.ref a1, .ref a2, .ref a3, .ref a4, .int 0, .ref a5, .ref a6, .ref a7, .ref a8, .ref a9, .ref a10, .ref a11]))])) (QcRead (-1)) 0 0 (fun _ => False) := by
  refine pm (by decide) (Nat.le_of_ble_eq_true rfl) ?_
  intro p e s m below meth c ls hx hb hr hml hown hlk hnm hts hv hl
  have hown : s.vm.findClass RX9 = some m.cls := hown
  have hl : lv_has ls 2 [(0, .ref a0), (1, .int x0)] := hl
  obtain ⟨hP, hK⟩ := hv
  refine lv_iload_n hx hb dX9_fault_0 rfl (lv_at hl 1 rfl) ?_
  refine lv_lookup (off := 43) (tgt := 44) hx hb dX9_fault_1 (by decide) ((lv_osw hy0 rfl).trans ((lv_osw hy1 rfl).trans rfl)) (by decide) ?_
  refine lv_iconst (v := (-1)) hx hb dX9_fault_44 (by decide) ?_
  exact W.iret hx hb hr (fun t ht _ => ⟨rfl, ht⟩) (fun _ h => by cases h) dX9_fault_45
set_option maxHeartbeats 4000000 in
set_option maxRecDepth 100000 in
theorem kX10_fault_2 (l : Launch) (D : va_G) (cB cI cJ cZ cT cR : ClassId) (a0 a1 a2 a3 a4 a5 a6 a7 a8 a9 a10 a11 a12 a13 a14 a15 a16 a17 a18 : Nat) (x0 : Int32) (hy0 : ¬ (x0 = 0)) (hy1 : ¬ (x0 = 1)) (sz : Nat) : Met l yX10_fault (uc yX10_fault cX10_fault 2 (some .int)) (rmL 1 0 0) (va_Pc [.ref a0, .int x0] (MPre D [(cB, .byte), (cI, .int), (cJ, .long), (cZ, .boolean), (cT, .object RX7), (cR, .object RX3)] [(a0, .inr (10, [.int 0, .ref a1, .ref a2, .ref a3, .ref a4, .ref a5, .int 0, .int 0, .int 0, .int 0, .int 0, .long 0, .int 0, .int 0, .int 0, .int (-1), .ref a6, .ref a7, .ref a8, .ref a9, .ref a10, .ref a11, .ref a12, .ref a13, .int 0, .int 0, .ref a14, .ref a15, .int 0, .int 0, .int 0, .ref a16, .ref a17, .int 0, .int 0, .int 0, .int 0, .int 0, .ref a18, .int 0, .int 0, .int 0]))] sz)) (va_Qi (fun (r : Int32) (_ : Unit) => r = (-1)) (MB D [(cB, .byte), (cI, .int), (cJ, .long), (cZ, .boolean), (cT, .object RX7), (cR, .object RX3)] [(a0, .inr (10, [.int 0, .ref a1, .ref a2, .ref a3, .ref a4, .ref a5, .int 0, .int 0, .int 0, .int 0, .int 0, .long 0, .int 0, .int 0, .int 0, .int (-1), .ref a6, .ref a7, .ref a8, .ref a9, .ref a10, .ref a11, .ref a12, .ref a13, .int 0, .int 0, .ref a14, .ref a15, .int 0, .int 0, .int 0, .ref a16, .ref a17, .int 0, .int 0, .int 0, .int 0, .int 0, .ref a18, .int 0, .int 0, .int 0]))] sz (fun (u : Unit) => [(a0, .inr (10, [.int 0, .ref a1, .ref a2, .ref a3, .ref a4, .ref a5, .int 0, .int 0, .int 0, .int 0, .int 0, .long 0, .int 0, .int 0, .int 0, .int (-1), .ref a6, .ref a7, .ref a8, .ref a9, .ref a10, .ref a11, .ref a12, .ref a13, .int 0, .int 0, .ref a14, .ref a15, .int 0, .int 0, .int 0, .ref a16, .ref a17, .int 0, .int 0, .int 0, .int 0, .int 0, .ref a18, .int 0, .int 0, .int 0]))])) (va_A [(a0, .inr (10, [.int 0, .ref a1, .ref a2, .ref a3, .ref a4, .ref a5, .int 0, .int 0, .int 0, .int 0, .int 0, .long 0, .int 0, .int 0, .int 0, .int (-1), .ref a6, .ref a7, .ref a8, .ref a9, .ref a10, .ref a11, .ref a12, .ref a13, .int 0, .int 0, .ref a14, .ref a15, .int 0, .int 0, .int 0, .ref a16, .ref a17, .int 0, .int 0, .int 0, .int 0, .int 0, .ref a18, .int 0, .int 0, .int 0]))] sz)) 0 0 (va_A [(a0, .inr (10, [.int 0, .ref a1, .ref a2, .ref a3, .ref a4, .ref a5, .int 0, .int 0, .int 0, .int 0, .int 0, .long 0, .int 0, .int 0, .int 0, .int (-1), .ref a6, .ref a7, .ref a8, .ref a9, .ref a10, .ref a11, .ref a12, .ref a13, .int 0, .int 0, .ref a14, .ref a15, .int 0, .int 0, .int 0, .ref a16, .ref a17, .int 0, .int 0, .int 0, .int 0, .int 0, .ref a18, .int 0, .int 0, .int 0]))] sz) := by
  refine pm (by decide) (Nat.le_of_ble_eq_true rfl) ?_
  intro p e s m below meth c ls hx hb hr hml hown hlk hnm hts hv hl
  have hown : s.vm.findClass RX10 = some m.cls := hown
  have hl : lv_has ls 2 [(0, .ref a0), (1, .int x0)] := hl
  obtain ⟨hsz, hP, hK, hD0, hE⟩ := hv
  subst hsz
  have hD := hD0.self (sz := s.heap.size)
  obtain ⟨AA, hAe⟩ : ∃ AA, AA = va_A [(a0, .inr (10, [.int 0, .ref a1, .ref a2, .ref a3, .ref a4, .ref a5, .int 0, .int 0, .int 0, .int 0, .int 0, .long 0, .int 0, .int 0, .int 0, .int (-1), .ref a6, .ref a7, .ref a8, .ref a9, .ref a10, .ref a11, .ref a12, .ref a13, .int 0, .int 0, .ref a14, .ref a15, .int 0, .int 0, .int 0, .ref a16, .ref a17, .int 0, .int 0, .int 0, .int 0, .int 0, .ref a18, .int 0, .int 0, .int 0]))] s.heap.size := ⟨_, rfl⟩
  rw [← hAe] at hD
  have hA : ∀ q : Nat, s.heap.size ≤ q → AA q := fun q h => by rw [hAe]; exact Or.inr h
  have hS : va_S AA s.heap s.heap [] := va_S.rf
  obtain ⟨-, hAOT, hAOR, hAOI⟩ := id hE
  refine lv_aload_n hx hb dX10_fault_0 rfl (lv_at hl 0 rfl) ?_
  refine lv_iconst (v := 0) hx hb dX10_fault_1 (by decide) ?_
  refine va_put (D := D) (ci := 10) (v := .int 0) (ty := .int) (C := RX10) (T := TX10) (N := 42) hx hb hts (fun w h => uc_in w (inX10 w h)) tyX10 tyX10_ok nmX10 hown hK hP hD hS 0 rfl rfl 0 (by decide) (hts _ (uc_in _ q_f1188)) (fun _ h9 => h9) rfl (by decide +kernel) rfl rfl (Nat.le_of_ble_eq_true rfl) dX10_fault_2 (fun H locs hP hD hS => ?_)
  have hP : va_P D vwCl [(a0, .inr (10, [.int 0, .ref a1, .ref a2, .ref a3, .ref a4, .ref a5, .int 0, .int 0, .int 0, .int 0, .int 0, .long 0, .int 0, .int 0, .int 0, .int (-1), .ref a6, .ref a7, .ref a8, .ref a9, .ref a10, .ref a11, .ref a12, .ref a13, .int 0, .int 0, .ref a14, .ref a15, .int 0, .int 0, .int 0, .ref a16, .ref a17, .int 0, .int 0, .int 0, .int 0, .int 0, .ref a18, .int 0, .int 0, .int 0]))] H := hP
  have hD : va_D AA [(a0, .inr (10, [.int 0, .ref a1, .ref a2, .ref a3, .ref a4, .ref a5, .int 0, .int 0, .int 0, .int 0, .int 0, .long 0, .int 0, .int 0, .int 0, .int (-1), .ref a6, .ref a7, .ref a8, .ref a9, .ref a10, .ref a11, .ref a12, .ref a13, .int 0, .int 0, .ref a14, .ref a15, .int 0, .int 0, .int 0, .ref a16, .ref a17, .int 0, .int 0, .int 0, .int 0, .int 0, .ref a18, .int 0, .int 0, .int 0]))] := hD
  refine lv_iload_n hx hb dX10_fault_5 rfl (lv_at hl 1 rfl) ?_
  refine lv_if_ne (tgt := 16) hx hb dX10_fault_6 (by decide) (fun _ => ?_) (fun c9 => absurd c9 hy0)
  refine lv_iload_n hx hb dX10_fault_16 rfl (lv_at hl 1 rfl) ?_
  refine lv_iconst (v := 1) hx hb dX10_fault_17 (by decide) ?_
  refine lv_icmp_ne (tgt := 28) hx hb dX10_fault_18 (by decide) (fun _ => ?_) (fun c9 => absurd c9 hy1)
  refine lv_iconst (v := (-1)) hx hb dX10_fault_28 (by decide) ?_
  subst hAe
  have hP9 := hP.sub (ws' := [(a0, .inr (10, [.int 0, .ref a1, .ref a2, .ref a3, .ref a4, .ref a5, .int 0, .int 0, .int 0, .int 0, .int 0, .long 0, .int 0, .int 0, .int 0, .int (-1), .ref a6, .ref a7, .ref a8, .ref a9, .ref a10, .ref a11, .ref a12, .ref a13, .int 0, .int 0, .ref a14, .ref a15, .int 0, .int 0, .int 0, .ref a16, .ref a17, .int 0, .int 0, .int 0, .int 0, .int 0, .ref a18, .int 0, .int 0, .int 0]))]) [0] rfl
  have hD9 := hD.sub (ws' := [(a0, .inr (10, [.int 0, .ref a1, .ref a2, .ref a3, .ref a4, .ref a5, .int 0, .int 0, .int 0, .int 0, .int 0, .long 0, .int 0, .int 0, .int 0, .int (-1), .ref a6, .ref a7, .ref a8, .ref a9, .ref a10, .ref a11, .ref a12, .ref a13, .int 0, .int 0, .ref a14, .ref a15, .int 0, .int 0, .int 0, .ref a16, .ref a17, .int 0, .int 0, .int 0, .int 0, .int 0, .ref a18, .int 0, .int 0, .int 0]))]) [0] rfl rfl
  exact W.iret hx hb hr (fun t ht hW => ⟨⟨(-1), (), rfl, rfl, by rw [ht]; exact hP9, va_K.moved hW.alike hK, hD9⟩, hS.F ht⟩) hS.2.2 dX10_fault_29
set_option maxHeartbeats 4000000 in
set_option maxRecDepth 100000 in
theorem law_case_3 {p : Program} {l : Launch} {e : Env} {s : State} {m : MethodId} {below : List Frame} {meth : Method} {c : Code} {D : va_G} {cB cI cJ cZ cT cR : ClassId} {b : Nat} {xs : Nat → Int32} {A B : Nat → Nat} {H : Heap} {locs : List Loc} {ls : Array Slot} (C0 : lw_At p s m meth c b 6 xs) (hE : EX s) (hK : va_K D vwCl [(cB, .byte), (cI, .int), (cJ, .long), (cZ, .boolean), (cT, .object RX7), (cR, .object RX3)] s) (hP : va_P D vwCl (fwAll cB cI cJ cZ cT cR A B) H) (hD : va_D (fun q : Nat => s.heap.size ≤ q) (fwAll cB cI cJ cZ cT cR A B)) (hS : va_S (fun q : Nat => s.heap.size ≤ q) s.heap H locs) (hl : lv_has ls 4 [(3, .int 0), (2, .ref (B 0)), (1, .ref (A 0)), (0, .ref b)]) : W p l e room_1 s m #[Value.ref b] below meth c H locs 180 4779 (lw_Z below #[Value.ref b] s) (F0 m 435 ls []) := by
  obtain ⟨hx, hb, hr, hml, hown, hts, hX, hbl, hlocks, hgv⟩ := id C0
  have hown : s.vm.findClass RL = some m.cls := hown
  have hb : c.code = cL_law := hb
  have hA : ∀ q : Nat, s.heap.size ≤ q → (fun q : Nat => s.heap.size ≤ q) q := fun _ h => h
  have hbA : ¬ (fun q : Nat => s.heap.size ≤ q) b := Nat.not_le.mpr hbl
  have hP := hP.sub (ws' := [((A 0), .inr (9, [.ref (A 1), .ref (A 3), .ref (A 12), .ref (A 21), .int 0, .ref (A 49), .ref (A 51), .ref (A 60), .ref (A 61), .ref (A 62), .ref (A 63), .ref (A 64)])), ((A 1), .inr (6, [.ref (A 2), .int 0, .int 0, .int (-1), .int 0, .int 0, .int 0, .int 0])), ((B 0), .inr (10, [.int 0, .ref (B 1), .ref (B 2), .ref (B 3), .ref (B 4), .ref (B 5), .int 0, .int 0, .int 0, .int 0, .int 0, .long 0, .int 0, .int 0, .int 0, .int (-1), .ref (B 6), .ref (B 7), .ref (B 8), .ref (B 9), .ref (B 10), .ref (B 11), .ref (B 12), .ref (B 13), .int 0, .int 0, .ref (B 14), .ref (B 15), .int 0, .int 0, .int 0, .ref (B 16), .ref (B 17), .int 0, .int 0, .int 0, .int 0, .int 0, .ref (B 18), .int 0, .int 0, .int 0]))]) [0, 1, 60] rfl
  have hD := hD.sub (ws' := [((A 0), .inr (9, [.ref (A 1), .ref (A 3), .ref (A 12), .ref (A 21), .int 0, .ref (A 49), .ref (A 51), .ref (A 60), .ref (A 61), .ref (A 62), .ref (A 63), .ref (A 64)])), ((A 1), .inr (6, [.ref (A 2), .int 0, .int 0, .int (-1), .int 0, .int 0, .int 0, .int 0])), ((B 0), .inr (10, [.int 0, .ref (B 1), .ref (B 2), .ref (B 3), .ref (B 4), .ref (B 5), .int 0, .int 0, .int 0, .int 0, .int 0, .long 0, .int 0, .int 0, .int 0, .int (-1), .ref (B 6), .ref (B 7), .ref (B 8), .ref (B 9), .ref (B 10), .ref (B 11), .ref (B 12), .ref (B 13), .int 0, .int 0, .ref (B 14), .ref (B 15), .int 0, .int 0, .int 0, .ref (B 16), .ref (B 17), .int 0, .int 0, .int 0, .int 0, .int 0, .ref (B 18), .int 0, .int 0, .int 0]))]) [0, 1, 60] rfl rfl
  refine lv_aload_n hx hb dL_law_435 rfl (lv_at hl 2 rfl) ?_
  refine lv_aload_n hx hb dL_law_436 rfl (lv_at hl 3 rfl) ?_
  refine lv_iload_n hx hb dL_law_437 rfl (lv_at hl 0 rfl) ?_
  refine lv_iconst (v := 1) hx hb dL_law_438 (by decide) ?_
  refine lv_iadd hx hb dL_law_439 ?_
  refine pv_i (v := 1) (by decide) ?_
  refine va_sld hx hb hX hbl hbA hS (vp_in_iff.mpr ⟨by decide, by decide⟩) dL_law_440 ?_
  refine lv_topi (fun p1 ep1 => ?_)
  by_cases hc1 : p1 = 0
  · subst hc1
    refine cvR (n := 1) (As := [.int 0]) (rest := []) ⟨hx, hb, hml, hown, hts⟩ (fun _ h => uw_in h) (kX9_fault_0 l D cB cI cJ cZ cT cR (A 0) (A 1) (A 3) (A 12) (A 21) (A 49) (A 51) (A 60) (A 61) (A 62) (A 63) (A 64) (A 2)) q_m581 q_n582 q_e583 q_i1 q_c584 (by decide +kernel) ⟨(Nat.le_of_ble_eq_true rfl), (Nat.le_of_ble_eq_true rfl)⟩ ⟨(Nat.le_of_ble_eq_true rfl), (Nat.le_of_ble_eq_true rfl)⟩ hK (hP.sub (ws' := [((A 0), .inr (9, [.ref (A 1), .ref (A 3), .ref (A 12), .ref (A 21), .int 0, .ref (A 49), .ref (A 51), .ref (A 60), .ref (A 61), .ref (A 62), .ref (A 63), .ref (A 64)])), ((A 1), .inr (6, [.ref (A 2), .int 0, .int 0, .int (-1), .int 0, .int 0, .int 0, .int 0]))]) [0, 1] rfl) 9 0 rfl rfl rfl hl.1 rfl (Nat.le_of_ble_eq_true rfl) dL_law_441 ?_
    refine lv_aload_n hx hb dL_law_444 rfl (lv_at hl 1 rfl) ?_
    refine lv_aload_n hx hb dL_law_445 rfl (lv_at hl 3 rfl) ?_
    refine lv_iload_n hx hb dL_law_446 rfl (lv_at hl 0 rfl) ?_
    refine lv_iconst (v := 1) hx hb dL_law_447 (by decide) ?_
    refine lv_iadd hx hb dL_law_448 ?_
    refine pv_i (v := 1) (by decide) ?_
    refine va_sld hx hb hX hbl hbA hS (vp_in_iff.mpr ⟨by decide, by decide⟩) dL_law_449 ?_
    refine pv_i (v := 0) ep1.symm ?_
    refine cvM (n := 1) (As := [.int 0]) (rest := [.int 0]) (wr := [((A 0), .inr (9, [.ref (A 1), .ref (A 3), .ref (A 12), .ref (A 21), .int 0, .ref (A 49), .ref (A 51), .ref (A 60), .ref (A 61), .ref (A 62), .ref (A 63), .ref (A 64)])), ((A 1), .inr (6, [.ref (A 2), .int 0, .int 0, .int (-1), .int 0, .int 0, .int 0, .int 0]))]) ⟨hx, hb, hml, hown, hts⟩ (fun _ h => uw_in h) (kX10_fault_0 l D cB cI cJ cZ cT cR (B 0) (B 1) (B 2) (B 3) (B 4) (B 5) (B 6) (B 7) (B 8) (B 9) (B 10) (B 11) (B 12) (B 13) (B 14) (B 15) (B 16) (B 17) (B 18) H.size) q_m1350 q_n1351 q_e1352 q_i11 q_c1353 (by decide +kernel) ⟨(Nat.le_of_ble_eq_true rfl), (Nat.le_of_ble_eq_true rfl)⟩ ⟨(Nat.le_of_ble_eq_true rfl), (Nat.le_of_ble_eq_true rfl)⟩ hE hK hP hD hS hA [2] [0, 1] rfl rfl rfl rfl (by decide) 10 0 rfl rfl rfl hl.1 rfl (Nat.le_of_ble_eq_true rfl) dL_law_450 (fun r9 u H locs hpo hP hD hS => ?_)
    have hP : va_P D vwCl [((A 0), .inr (9, [.ref (A 1), .ref (A 3), .ref (A 12), .ref (A 21), .int 0, .ref (A 49), .ref (A 51), .ref (A 60), .ref (A 61), .ref (A 62), .ref (A 63), .ref (A 64)])), ((A 1), .inr (6, [.ref (A 2), .int 0, .int 0, .int (-1), .int 0, .int 0, .int 0, .int 0])), ((B 0), .inr (10, [.int 0, .ref (B 1), .ref (B 2), .ref (B 3), .ref (B 4), .ref (B 5), .int 0, .int 0, .int 0, .int 0, .int 0, .long 0, .int 0, .int 0, .int 0, .int (-1), .ref (B 6), .ref (B 7), .ref (B 8), .ref (B 9), .ref (B 10), .ref (B 11), .ref (B 12), .ref (B 13), .int 0, .int 0, .ref (B 14), .ref (B 15), .int 0, .int 0, .int 0, .ref (B 16), .ref (B 17), .int 0, .int 0, .int 0, .int 0, .int 0, .ref (B 18), .int 0, .int 0, .int 0]))] H := hP
    have hD : va_D (fun q : Nat => s.heap.size ≤ q) [((A 0), .inr (9, [.ref (A 1), .ref (A 3), .ref (A 12), .ref (A 21), .int 0, .ref (A 49), .ref (A 51), .ref (A 60), .ref (A 61), .ref (A 62), .ref (A 63), .ref (A 64)])), ((A 1), .inr (6, [.ref (A 2), .int 0, .int 0, .int (-1), .int 0, .int 0, .int 0, .int 0])), ((B 0), .inr (10, [.int 0, .ref (B 1), .ref (B 2), .ref (B 3), .ref (B 4), .ref (B 5), .int 0, .int 0, .int 0, .int 0, .int 0, .long 0, .int 0, .int 0, .int 0, .int (-1), .ref (B 6), .ref (B 7), .ref (B 8), .ref (B 9), .ref (B 10), .ref (B 11), .ref (B 12), .ref (B 13), .int 0, .int 0, .ref (B 14), .ref (B 15), .int 0, .int 0, .int 0, .ref (B 16), .ref (B 17), .int 0, .int 0, .int 0, .int 0, .int 0, .ref (B 18), .int 0, .int 0, .int 0]))] := hD
    refine W.cs (cells' := 180) (slots' := 4779) rfl rfl ?_
    refine pv_i (v := 0) hpo ?_
    refine lv_icmp_eq (tgt := 2362) hx hb dL_law_453 (by decide) (fun _ => ?_) (fun c9 => absurd (by decide) c9)
    exact law_end C0 hS (Nat.le_of_ble_eq_true rfl) (Nat.le_of_ble_eq_true rfl) ls hl
  · by_cases hc2 : p1 = 1
    · subst hc2
      refine cvR (n := 1) (As := [.int 1]) (rest := []) ⟨hx, hb, hml, hown, hts⟩ (fun _ h => uw_in h) (kX9_fault_1 l D cB cI cJ cZ cT cR (A 0) (A 1) (A 3) (A 12) (A 21) (A 49) (A 51) (A 60) (A 61) (A 62) (A 63) (A 64) (A 2)) q_m581 q_n582 q_e583 q_i1 q_c584 (by decide +kernel) ⟨(Nat.le_of_ble_eq_true rfl), (Nat.le_of_ble_eq_true rfl)⟩ ⟨(Nat.le_of_ble_eq_true rfl), (Nat.le_of_ble_eq_true rfl)⟩ hK (hP.sub (ws' := [((A 0), .inr (9, [.ref (A 1), .ref (A 3), .ref (A 12), .ref (A 21), .int 0, .ref (A 49), .ref (A 51), .ref (A 60), .ref (A 61), .ref (A 62), .ref (A 63), .ref (A 64)])), ((A 1), .inr (6, [.ref (A 2), .int 0, .int 0, .int (-1), .int 0, .int 0, .int 0, .int 0]))]) [0, 1] rfl) 9 0 rfl rfl rfl hl.1 rfl (Nat.le_of_ble_eq_true rfl) dL_law_441 ?_
      refine lv_aload_n hx hb dL_law_444 rfl (lv_at hl 1 rfl) ?_
      refine lv_aload_n hx hb dL_law_445 rfl (lv_at hl 3 rfl) ?_
      refine lv_iload_n hx hb dL_law_446 rfl (lv_at hl 0 rfl) ?_
      refine lv_iconst (v := 1) hx hb dL_law_447 (by decide) ?_
      refine lv_iadd hx hb dL_law_448 ?_
      refine pv_i (v := 1) (by decide) ?_
      refine va_sld hx hb hX hbl hbA hS (vp_in_iff.mpr ⟨by decide, by decide⟩) dL_law_449 ?_
      refine pv_i (v := 1) ep1.symm ?_
      refine cvM (n := 1) (As := [.int 1]) (rest := [.int (-1)]) (wr := [((A 0), .inr (9, [.ref (A 1), .ref (A 3), .ref (A 12), .ref (A 21), .int 0, .ref (A 49), .ref (A 51), .ref (A 60), .ref (A 61), .ref (A 62), .ref (A 63), .ref (A 64)])), ((A 1), .inr (6, [.ref (A 2), .int 0, .int 0, .int (-1), .int 0, .int 0, .int 0, .int 0]))]) ⟨hx, hb, hml, hown, hts⟩ (fun _ h => uw_in h) (kX10_fault_1 l D cB cI cJ cZ cT cR (B 0) (B 1) (B 2) (B 3) (B 4) (B 5) (B 6) (B 7) (B 8) (B 9) (B 10) (B 11) (B 12) (B 13) (B 14) (B 15) (B 16) (B 17) (B 18) H.size) q_m1350 q_n1351 q_e1352 q_i11 q_c1353 (by decide +kernel) ⟨(Nat.le_of_ble_eq_true rfl), (Nat.le_of_ble_eq_true rfl)⟩ ⟨(Nat.le_of_ble_eq_true rfl), (Nat.le_of_ble_eq_true rfl)⟩ hE hK hP hD hS hA [2] [0, 1] rfl rfl rfl rfl (by decide) 10 0 rfl rfl rfl hl.1 rfl (Nat.le_of_ble_eq_true rfl) dL_law_450 (fun r9 u H locs hpo hP hD hS => ?_)
      have hP : va_P D vwCl [((A 0), .inr (9, [.ref (A 1), .ref (A 3), .ref (A 12), .ref (A 21), .int 0, .ref (A 49), .ref (A 51), .ref (A 60), .ref (A 61), .ref (A 62), .ref (A 63), .ref (A 64)])), ((A 1), .inr (6, [.ref (A 2), .int 0, .int 0, .int (-1), .int 0, .int 0, .int 0, .int 0])), ((B 0), .inr (10, [.int 0, .ref (B 1), .ref (B 2), .ref (B 3), .ref (B 4), .ref (B 5), .int 0, .int 0, .int 0, .int 0, .int 0, .long 0, .int 0, .int 0, .int 0, .int (-1), .ref (B 6), .ref (B 7), .ref (B 8), .ref (B 9), .ref (B 10), .ref (B 11), .ref (B 12), .ref (B 13), .int 0, .int 0, .ref (B 14), .ref (B 15), .int 0, .int 0, .int 0, .ref (B 16), .ref (B 17), .int 0, .int 0, .int 0, .int 0, .int 0, .ref (B 18), .int 0, .int 0, .int 0]))] H := hP
      have hD : va_D (fun q : Nat => s.heap.size ≤ q) [((A 0), .inr (9, [.ref (A 1), .ref (A 3), .ref (A 12), .ref (A 21), .int 0, .ref (A 49), .ref (A 51), .ref (A 60), .ref (A 61), .ref (A 62), .ref (A 63), .ref (A 64)])), ((A 1), .inr (6, [.ref (A 2), .int 0, .int 0, .int (-1), .int 0, .int 0, .int 0, .int 0])), ((B 0), .inr (10, [.int 0, .ref (B 1), .ref (B 2), .ref (B 3), .ref (B 4), .ref (B 5), .int 0, .int 0, .int 0, .int 0, .int 0, .long 0, .int 0, .int 0, .int 0, .int (-1), .ref (B 6), .ref (B 7), .ref (B 8), .ref (B 9), .ref (B 10), .ref (B 11), .ref (B 12), .ref (B 13), .int 0, .int 0, .ref (B 14), .ref (B 15), .int 0, .int 0, .int 0, .ref (B 16), .ref (B 17), .int 0, .int 0, .int 0, .int 0, .int 0, .ref (B 18), .int 0, .int 0, .int 0]))] := hD
      refine W.cs (cells' := 180) (slots' := 4779) rfl rfl ?_
      refine pv_i (v := (-1)) hpo ?_
      refine lv_icmp_eq (tgt := 2362) hx hb dL_law_453 (by decide) (fun _ => ?_) (fun c9 => absurd (by decide) c9)
      exact law_end C0 hS (Nat.le_of_ble_eq_true rfl) (Nat.le_of_ble_eq_true rfl) ls hl
    · refine cvR (n := 1) (As := [.int p1]) (rest := []) ⟨hx, hb, hml, hown, hts⟩ (fun _ h => uw_in h) (kX9_fault_2 l D cB cI cJ cZ cT cR (A 0) (A 1) (A 3) (A 12) (A 21) (A 49) (A 51) (A 60) (A 61) (A 62) (A 63) (A 64) p1 hc1 hc2) q_m581 q_n582 q_e583 q_i1 q_c584 (by decide +kernel) ⟨(Nat.le_of_ble_eq_true rfl), (Nat.le_of_ble_eq_true rfl)⟩ ⟨(Nat.le_of_ble_eq_true rfl), (Nat.le_of_ble_eq_true rfl)⟩ hK (hP.sub (ws' := [((A 0), .inr (9, [.ref (A 1), .ref (A 3), .ref (A 12), .ref (A 21), .int 0, .ref (A 49), .ref (A 51), .ref (A 60), .ref (A 61), .ref (A 62), .ref (A 63), .ref (A 64)]))]) [0] rfl) 9 0 rfl rfl rfl hl.1 rfl (Nat.le_of_ble_eq_true rfl) dL_law_441 ?_
      refine lv_aload_n hx hb dL_law_444 rfl (lv_at hl 1 rfl) ?_
      refine lv_aload_n hx hb dL_law_445 rfl (lv_at hl 3 rfl) ?_
      refine lv_iload_n hx hb dL_law_446 rfl (lv_at hl 0 rfl) ?_
      refine lv_iconst (v := 1) hx hb dL_law_447 (by decide) ?_
      refine lv_iadd hx hb dL_law_448 ?_
      refine pv_i (v := 1) (by decide) ?_
      refine va_sld hx hb hX hbl hbA hS (vp_in_iff.mpr ⟨by decide, by decide⟩) dL_law_449 ?_
      refine pv_i (v := p1) ep1.symm ?_
      refine cvM (n := 1) (As := [.int p1]) (rest := [.int (-1)]) (wr := [((A 0), .inr (9, [.ref (A 1), .ref (A 3), .ref (A 12), .ref (A 21), .int 0, .ref (A 49), .ref (A 51), .ref (A 60), .ref (A 61), .ref (A 62), .ref (A 63), .ref (A 64)])), ((A 1), .inr (6, [.ref (A 2), .int 0, .int 0, .int (-1), .int 0, .int 0, .int 0, .int 0]))]) ⟨hx, hb, hml, hown, hts⟩ (fun _ h => uw_in h) (kX10_fault_2 l D cB cI cJ cZ cT cR (B 0) (B 1) (B 2) (B 3) (B 4) (B 5) (B 6) (B 7) (B 8) (B 9) (B 10) (B 11) (B 12) (B 13) (B 14) (B 15) (B 16) (B 17) (B 18) p1 hc1 hc2 H.size) q_m1350 q_n1351 q_e1352 q_i11 q_c1353 (by decide +kernel) ⟨(Nat.le_of_ble_eq_true rfl), (Nat.le_of_ble_eq_true rfl)⟩ ⟨(Nat.le_of_ble_eq_true rfl), (Nat.le_of_ble_eq_true rfl)⟩ hE hK hP hD hS hA [2] [0, 1] rfl rfl rfl rfl (by decide) 10 0 rfl rfl rfl hl.1 rfl (Nat.le_of_ble_eq_true rfl) dL_law_450 (fun r9 u H locs hpo hP hD hS => ?_)
      have hP : va_P D vwCl [((A 0), .inr (9, [.ref (A 1), .ref (A 3), .ref (A 12), .ref (A 21), .int 0, .ref (A 49), .ref (A 51), .ref (A 60), .ref (A 61), .ref (A 62), .ref (A 63), .ref (A 64)])), ((A 1), .inr (6, [.ref (A 2), .int 0, .int 0, .int (-1), .int 0, .int 0, .int 0, .int 0])), ((B 0), .inr (10, [.int 0, .ref (B 1), .ref (B 2), .ref (B 3), .ref (B 4), .ref (B 5), .int 0, .int 0, .int 0, .int 0, .int 0, .long 0, .int 0, .int 0, .int 0, .int (-1), .ref (B 6), .ref (B 7), .ref (B 8), .ref (B 9), .ref (B 10), .ref (B 11), .ref (B 12), .ref (B 13), .int 0, .int 0, .ref (B 14), .ref (B 15), .int 0, .int 0, .int 0, .ref (B 16), .ref (B 17), .int 0, .int 0, .int 0, .int 0, .int 0, .ref (B 18), .int 0, .int 0, .int 0]))] H := hP
      have hD : va_D (fun q : Nat => s.heap.size ≤ q) [((A 0), .inr (9, [.ref (A 1), .ref (A 3), .ref (A 12), .ref (A 21), .int 0, .ref (A 49), .ref (A 51), .ref (A 60), .ref (A 61), .ref (A 62), .ref (A 63), .ref (A 64)])), ((A 1), .inr (6, [.ref (A 2), .int 0, .int 0, .int (-1), .int 0, .int 0, .int 0, .int 0])), ((B 0), .inr (10, [.int 0, .ref (B 1), .ref (B 2), .ref (B 3), .ref (B 4), .ref (B 5), .int 0, .int 0, .int 0, .int 0, .int 0, .long 0, .int 0, .int 0, .int 0, .int (-1), .ref (B 6), .ref (B 7), .ref (B 8), .ref (B 9), .ref (B 10), .ref (B 11), .ref (B 12), .ref (B 13), .int 0, .int 0, .ref (B 14), .ref (B 15), .int 0, .int 0, .int 0, .ref (B 16), .ref (B 17), .int 0, .int 0, .int 0, .int 0, .int 0, .ref (B 18), .int 0, .int 0, .int 0]))] := hD
      refine W.cs (cells' := 180) (slots' := 4779) rfl rfl ?_
      refine pv_i (v := (-1)) hpo ?_
      refine lv_icmp_eq (tgt := 2362) hx hb dL_law_453 (by decide) (fun _ => ?_) (fun c9 => absurd (by decide) c9)
      exact law_end C0 hS (Nat.le_of_ble_eq_true rfl) (Nat.le_of_ble_eq_true rfl) ls hl
