set_option maxHeartbeats 4000000 in
set_option maxRecDepth 100000 in
theorem kX9_back_2 (l : Launch) (D : va_G) (cB cI cJ cZ cT cR : ClassId) (a0 a1 a2 a3 a4 a5 a6 a7 a8 a9 a10 a11 : Nat) : Met l yX9_back (uc yX9_back cX9_back 2 (some .int)) (rmL 2 0 0) (va_Pc [.ref a0, .int 2] (RPre D [(cB, .byte), (cI, .int), (cJ, .long), (cZ, .boolean), (cT, .object RX7), (cR, .object RX3)] [(a0, .inr (9, [.ref a1, .ref a2, .ref a3, .ref a4, .int 0, .ref a5, .ref a6, .ref a7, .ref a8, .ref a9, .ref a10, .ref a11]))])) (QcRead (-6)) 0 0 (fun _ => False) := by
  refine pm (by decide) (Nat.le_of_ble_eq_true rfl) ?_
  intro p e s m below meth c ls hx hb hr hml hown hlk hnm hts hv hl
  have hown : s.vm.findClass RX9 = some m.cls := hown
  have hl : lv_has ls 2 [(0, .ref a0), (1, .int 2)] := hl
  obtain ⟨hP, hK⟩ := hv
  refine lv_iload_n hx hb dX9_back_0 rfl (lv_at hl 1 rfl) ?_
  refine lv_iconst (v := 0) hx hb dX9_back_1 (by decide) ?_
  refine lv_iconst (v := 2) hx hb dX9_back_2 (by decide) ?_
  refine csR (n := 3) (As := [.int 2, .int 0, .int 2]) (rest := []) ⟨hx, hb, hml, hown, hts⟩ uc_in (k_isWithin l D [(cB, .byte), (cI, .int), (cJ, .long), (cZ, .boolean), (cT, .object RX7), (cR, .object RX3)] 2 0 2 1 (if_pos (by decide)).symm) q_m651 q_s652 q_i1 q_c653 (by decide +kernel) ⟨(Nat.le_of_ble_eq_true rfl), (Nat.le_of_ble_eq_true rfl)⟩ ⟨(Nat.le_of_ble_eq_true rfl), (Nat.le_of_ble_eq_true rfl)⟩ hK (hP.sub (ws' := []) [] rfl) rfl hl.1 rfl (Nat.le_of_ble_eq_true rfl) dX9_back_3 ?_
  refine lv_if_ne (tgt := 12) hx hb dX9_back_6 (by decide) (fun _ => ?_) (fun c9 => absurd c9 (by decide))
  refine lv_aload_n hx hb dX9_back_12 rfl (lv_at hl 0 rfl) ?_
  refine va_get (D := D) (ci := 9) (v := .int 0) (C := RX9) (T := TX9) (N := 12) hx hb hts (fun w h => uc_in w (inX9 w h)) hown hK hP 0 rfl rfl 4 (by decide) (hts _ (uc_in _ q_f387)) (fun _ h9 => h9) rfl dX9_back_13 ?_
  refine lv_iload_n hx hb dX9_back_16 rfl (lv_at hl 1 rfl) ?_
  refine lv_ishr hx hb dX9_back_17 ?_
  refine pv_i (v := 0) (by decide) ?_
  refine lv_iconst (v := 1) hx hb dX9_back_18 (by decide) ?_
  refine lv_iand hx hb dX9_back_19 ?_
  refine pv_i (v := 0) (by decide) ?_
  refine lv_if_ne (tgt := 26) hx hb dX9_back_20 (by decide) (fun c9 => absurd (by decide) c9) (fun _ => ?_)
  refine lv_bipush (v := (-6)) hx hb dX9_back_23 (by decide) ?_
  exact W.iret hx hb hr (fun t ht _ => ⟨rfl, ht⟩) (fun _ h => by cases h) dX9_back_25
set_option maxHeartbeats 4000000 in
set_option maxRecDepth 100000 in
theorem kX10_back_2 (l : Launch) (D : va_G) (cB cI cJ cZ cT cR : ClassId) (a0 a1 a2 a3 a4 a5 a6 a7 a8 a9 a10 a11 a12 a13 a14 a15 a16 a17 a18 : Nat) (sz : Nat) : Met l yX10_back (uc yX10_back cX10_back 2 (some .int)) (rmL 2 0 0) (va_Pc [.ref a0, .int 2] (MPre D [(cB, .byte), (cI, .int), (cJ, .long), (cZ, .boolean), (cT, .object RX7), (cR, .object RX3)] [(a0, .inr (10, [.int 0, .ref a2, .ref a3, .ref a4, .ref a5, .ref a6, .int 0, .int 0, .int 0, .int 0, .int 0, .long 0, .int 0, .int 0, .int 0, .int (-1), .ref a7, .ref a8, .ref a9, .ref a10, .ref a11, .ref a1, .ref a12, .ref a13, .int 0, .int 0, .ref a14, .ref a15, .int 0, .int 0, .int 0, .ref a16, .ref a17, .int 0, .int 0, .int 0, .int 0, .int 0, .ref a18, .int 0, .int 0, .int 0])), (a1, .inl (cZ, 3, .inl (fun _ => 0)))] sz)) (va_Qi (fun (r : Int32) (_ : Unit) => r = (-6)) (MB D [(cB, .byte), (cI, .int), (cJ, .long), (cZ, .boolean), (cT, .object RX7), (cR, .object RX3)] [(a0, .inr (10, [.int 0, .ref a2, .ref a3, .ref a4, .ref a5, .ref a6, .int 0, .int 0, .int 0, .int 0, .int 0, .long 0, .int 0, .int 0, .int 0, .int (-1), .ref a7, .ref a8, .ref a9, .ref a10, .ref a11, .ref a1, .ref a12, .ref a13, .int 0, .int 0, .ref a14, .ref a15, .int 0, .int 0, .int 0, .ref a16, .ref a17, .int 0, .int 0, .int 0, .int 0, .int 0, .ref a18, .int 0, .int 0, .int 0])), (a1, .inl (cZ, 3, .inl (fun _ => 0)))] sz (fun (u : Unit) => [(a0, .inr (10, [.int 0, .ref a2, .ref a3, .ref a4, .ref a5, .ref a6, .int 0, .int 0, .int 0, .int 0, .int 0, .long 0, .int 0, .int 0, .int 0, .int (-1), .ref a7, .ref a8, .ref a9, .ref a10, .ref a11, .ref a1, .ref a12, .ref a13, .int 0, .int 0, .ref a14, .ref a15, .int 0, .int 0, .int 0, .ref a16, .ref a17, .int 0, .int 0, .int 0, .int 0, .int 0, .ref a18, .int 0, .int 0, .int 0])), (a1, .inl (cZ, 3, .inl (fun _ => 0)))])) (va_A [(a0, .inr (10, [.int 0, .ref a2, .ref a3, .ref a4, .ref a5, .ref a6, .int 0, .int 0, .int 0, .int 0, .int 0, .long 0, .int 0, .int 0, .int 0, .int (-1), .ref a7, .ref a8, .ref a9, .ref a10, .ref a11, .ref a1, .ref a12, .ref a13, .int 0, .int 0, .ref a14, .ref a15, .int 0, .int 0, .int 0, .ref a16, .ref a17, .int 0, .int 0, .int 0, .int 0, .int 0, .ref a18, .int 0, .int 0, .int 0])), (a1, .inl (cZ, 3, .inl (fun _ => 0)))] sz)) 0 0 (va_A [(a0, .inr (10, [.int 0, .ref a2, .ref a3, .ref a4, .ref a5, .ref a6, .int 0, .int 0, .int 0, .int 0, .int 0, .long 0, .int 0, .int 0, .int 0, .int (-1), .ref a7, .ref a8, .ref a9, .ref a10, .ref a11, .ref a1, .ref a12, .ref a13, .int 0, .int 0, .ref a14, .ref a15, .int 0, .int 0, .int 0, .ref a16, .ref a17, .int 0, .int 0, .int 0, .int 0, .int 0, .ref a18, .int 0, .int 0, .int 0])), (a1, .inl (cZ, 3, .inl (fun _ => 0)))] sz) := by
  refine pm (by decide) (Nat.le_of_ble_eq_true rfl) ?_
  intro p e s m below meth c ls hx hb hr hml hown hlk hnm hts hv hl
  have hown : s.vm.findClass RX10 = some m.cls := hown
  have hl : lv_has ls 2 [(0, .ref a0), (1, .int 2)] := hl
  obtain ⟨hsz, hP, hK, hD0, hE⟩ := hv
  subst hsz
  have hD := hD0.self (sz := s.heap.size)
  obtain ⟨AA, hAe⟩ : ∃ AA, AA = va_A [(a0, .inr (10, [.int 0, .ref a2, .ref a3, .ref a4, .ref a5, .ref a6, .int 0, .int 0, .int 0, .int 0, .int 0, .long 0, .int 0, .int 0, .int 0, .int (-1), .ref a7, .ref a8, .ref a9, .ref a10, .ref a11, .ref a1, .ref a12, .ref a13, .int 0, .int 0, .ref a14, .ref a15, .int 0, .int 0, .int 0, .ref a16, .ref a17, .int 0, .int 0, .int 0, .int 0, .int 0, .ref a18, .int 0, .int 0, .int 0])), (a1, .inl (cZ, 3, .inl (fun _ => 0)))] s.heap.size := ⟨_, rfl⟩
  rw [← hAe] at hD
  have hA : ∀ q : Nat, s.heap.size ≤ q → AA q := fun q h => by rw [hAe]; exact Or.inr h
  have hS : va_S AA s.heap s.heap [] := va_S.rf
  obtain ⟨-, hAOT, hAOR, hAOI⟩ := id hE
  refine lv_aload_n hx hb dX10_back_0 rfl (lv_at hl 0 rfl) ?_
  refine lv_iconst (v := 0) hx hb dX10_back_1 (by decide) ?_
  refine va_put (D := D) (ci := 10) (v := .int 0) (ty := .int) (C := RX10) (T := TX10) (N := 42) hx hb hts (fun w h => uc_in w (inX10 w h)) tyX10 tyX10_ok nmX10 hown hK hP hD hS 0 rfl rfl 0 (by decide) (hts _ (uc_in _ q_f1188)) (fun _ h9 => h9) rfl (by decide +kernel) rfl rfl (Nat.le_of_ble_eq_true rfl) dX10_back_2 (fun H locs hP hD hS => ?_)
  have hP : va_P D vwCl [(a0, .inr (10, [.int 0, .ref a2, .ref a3, .ref a4, .ref a5, .ref a6, .int 0, .int 0, .int 0, .int 0, .int 0, .long 0, .int 0, .int 0, .int 0, .int (-1), .ref a7, .ref a8, .ref a9, .ref a10, .ref a11, .ref a1, .ref a12, .ref a13, .int 0, .int 0, .ref a14, .ref a15, .int 0, .int 0, .int 0, .ref a16, .ref a17, .int 0, .int 0, .int 0, .int 0, .int 0, .ref a18, .int 0, .int 0, .int 0])), (a1, .inl (cZ, 3, .inl (fun _ => 0)))] H := hP
  have hD : va_D AA [(a0, .inr (10, [.int 0, .ref a2, .ref a3, .ref a4, .ref a5, .ref a6, .int 0, .int 0, .int 0, .int 0, .int 0, .long 0, .int 0, .int 0, .int 0, .int (-1), .ref a7, .ref a8, .ref a9, .ref a10, .ref a11, .ref a1, .ref a12, .ref a13, .int 0, .int 0, .ref a14, .ref a15, .int 0, .int 0, .int 0, .ref a16, .ref a17, .int 0, .int 0, .int 0, .int 0, .int 0, .ref a18, .int 0, .int 0, .int 0])), (a1, .inl (cZ, 3, .inl (fun _ => 0)))] := hD
  refine lv_iload_n hx hb dX10_back_5 rfl (lv_at hl 1 rfl) ?_
  refine lv_i2l (v := 2) hx hb dX10_back_6 (by decide) ?_
  refine lv_lconst (v := 0) hx hb dX10_back_7 (by decide) ?_
  refine lv_ldc2 (v := 2) hx hb hown (hts _ (uc_in _ q_k1909)) dX10_back_8 ?_
  refine csR (n := 3) (As := [.long 2, .long 0, .long 2]) (rest := []) ⟨hx, hb, hml, hown, hts⟩ uc_in (k_in l D [(cB, .byte), (cI, .int), (cJ, .long), (cZ, .boolean), (cT, .object RX7), (cR, .object RX3)] 2 0 2 1 (if_pos (by decide)).symm) q_m1324 q_s1325 q_i11 q_c1326 (by decide +kernel) ⟨(Nat.le_of_ble_eq_true rfl), (Nat.le_of_ble_eq_true rfl)⟩ ⟨(Nat.le_of_ble_eq_true rfl), (Nat.le_of_ble_eq_true rfl)⟩ hK (hP.sub (ws' := []) [] rfl) rfl hl.1 rfl (Nat.le_of_ble_eq_true rfl) dX10_back_11 ?_
  refine lv_if_ne (tgt := 20) hx hb dX10_back_14 (by decide) (fun _ => ?_) (fun c9 => absurd c9 (by decide))
  refine lv_aload_n hx hb dX10_back_20 rfl (lv_at hl 0 rfl) ?_
  refine va_get (D := D) (ci := 10) (v := .ref a1) (C := RX10) (T := TX10) (N := 42) hx hb hts (fun w h => uc_in w (inX10 w h)) hown hK hP 0 rfl rfl 21 (by decide) (hts _ (uc_in _ q_f1209)) (fun _ h9 => h9) rfl dX10_back_21 ?_
  refine lv_iload_n hx hb dX10_back_24 rfl (lv_at hl 1 rfl) ?_
  refine va_zald hx hb hK hP 1 3 rfl rfl (vp_in_iff.mpr ⟨by decide, by decide⟩) dX10_back_25 ?_
  refine pv_i (v := 0) rfl ?_
  refine lv_if_ne (tgt := 32) hx hb dX10_back_26 (by decide) (fun c9 => absurd (by decide) c9) (fun _ => ?_)
  refine lv_bipush (v := (-6)) hx hb dX10_back_29 (by decide) ?_
  subst hAe
  have hP9 := hP.sub (ws' := [(a0, .inr (10, [.int 0, .ref a2, .ref a3, .ref a4, .ref a5, .ref a6, .int 0, .int 0, .int 0, .int 0, .int 0, .long 0, .int 0, .int 0, .int 0, .int (-1), .ref a7, .ref a8, .ref a9, .ref a10, .ref a11, .ref a1, .ref a12, .ref a13, .int 0, .int 0, .ref a14, .ref a15, .int 0, .int 0, .int 0, .ref a16, .ref a17, .int 0, .int 0, .int 0, .int 0, .int 0, .ref a18, .int 0, .int 0, .int 0])), (a1, .inl (cZ, 3, .inl (fun _ => 0)))]) [0, 1] rfl
  have hD9 := hD.sub (ws' := [(a0, .inr (10, [.int 0, .ref a2, .ref a3, .ref a4, .ref a5, .ref a6, .int 0, .int 0, .int 0, .int 0, .int 0, .long 0, .int 0, .int 0, .int 0, .int (-1), .ref a7, .ref a8, .ref a9, .ref a10, .ref a11, .ref a1, .ref a12, .ref a13, .int 0, .int 0, .ref a14, .ref a15, .int 0, .int 0, .int 0, .ref a16, .ref a17, .int 0, .int 0, .int 0, .int 0, .int 0, .ref a18, .int 0, .int 0, .int 0])), (a1, .inl (cZ, 3, .inl (fun _ => 0)))]) [0, 1] rfl rfl
  exact W.iret hx hb hr (fun t ht hW => ⟨⟨(-6), (), rfl, rfl, by rw [ht]; exact hP9, va_K.moved hW.alike hK, hD9⟩, hS.F ht⟩) hS.2.2 dX10_back_31
set_option maxHeartbeats 4000000 in
set_option maxRecDepth 100000 in
theorem kX9_back_3 (l : Launch) (D : va_G) (cB cI cJ cZ cT cR : ClassId) (a0 a1 a2 a3 a4 a5 a6 a7 a8 a9 a10 a11 : Nat) (x0 : Int32) (hy0 : ¬ (0 ≤ x0 ∧ x0 ≤ 2)) : Met l yX9_back (uc yX9_back cX9_back 2 (some .int)) (rmL 2 0 0) (va_Pc [.ref a0, .int x0] (RPre D [(cB, .byte), (cI, .int), (cJ, .long), (cZ, .boolean), (cT, .object RX7), (cR, .object RX3)] [(a0, .inr (9, [.ref a1, .ref a2, .ref a3, .ref a4, .int 0, .ref a5, .ref a6, .ref a7, .ref a8, .ref a9, .ref a10, .ref a11]))])) (QcRead (-2)) 0 0 (fun _ => False) := by
  refine pm (by decide) (Nat.le_of_ble_eq_true rfl) ?_
  intro p e s m below meth c ls hx hb hr hml hown hlk hnm hts hv hl
  have hown : s.vm.findClass RX9 = some m.cls := hown
  have hl : lv_has ls 2 [(0, .ref a0), (1, .int x0)] := hl
  obtain ⟨hP, hK⟩ := hv
  refine lv_iload_n hx hb dX9_back_0 rfl (lv_at hl 1 rfl) ?_
  refine lv_iconst (v := 0) hx hb dX9_back_1 (by decide) ?_
  refine lv_iconst (v := 2) hx hb dX9_back_2 (by decide) ?_
  refine csR (n := 3) (As := [.int x0, .int 0, .int 2]) (rest := []) ⟨hx, hb, hml, hown, hts⟩ uc_in (k_isWithin l D [(cB, .byte), (cI, .int), (cJ, .long), (cZ, .boolean), (cT, .object RX7), (cR, .object RX3)] x0 0 2 0 (if_neg hy0).symm) q_m651 q_s652 q_i1 q_c653 (by decide +kernel) ⟨(Nat.le_of_ble_eq_true rfl), (Nat.le_of_ble_eq_true rfl)⟩ ⟨(Nat.le_of_ble_eq_true rfl), (Nat.le_of_ble_eq_true rfl)⟩ hK (hP.sub (ws' := []) [] rfl) rfl hl.1 rfl (Nat.le_of_ble_eq_true rfl) dX9_back_3 ?_
  refine lv_if_ne (tgt := 12) hx hb dX9_back_6 (by decide) (fun c9 => absurd (by decide) c9) (fun _ => ?_)
  refine lv_bipush (v := (-2)) hx hb dX9_back_9 (by decide) ?_
  exact W.iret hx hb hr (fun t ht _ => ⟨rfl, ht⟩) (fun _ h => by cases h) dX9_back_11
set_option maxHeartbeats 4000000 in
set_option maxRecDepth 100000 in
theorem kX10_back_3 (l : Launch) (D : va_G) (cB cI cJ cZ cT cR : ClassId) (a0 a1 a2 a3 a4 a5 a6 a7 a8 a9 a10 a11 a12 a13 a14 a15 a16 a17 a18 : Nat) (x0 : Int32) (hy0 : ¬ (0 ≤ x0 ∧ x0 ≤ 2)) (sz : Nat) : Met l yX10_back (uc yX10_back cX10_back 2 (some .int)) (rmL 2 0 0) (va_Pc [.ref a0, .int x0] (MPre D [(cB, .byte), (cI, .int), (cJ, .long), (cZ, .boolean), (cT, .object RX7), (cR, .object RX3)] [(a0, .inr (10, [.int 0, .ref a1, .ref a2, .ref a3, .ref a4, .ref a5, .int 0, .int 0, .int 0, .int 0, .int 0, .long 0, .int 0, .int 0, .int 0, .int (-1), .ref a6, .ref a7, .ref a8, .ref a9, .ref a10, .ref a11, .ref a12, .ref a13, .int 0, .int 0, .ref a14, .ref a15, .int 0, .int 0, .int 0, .ref a16, .ref a17, .int 0, .int 0, .int 0, .int 0, .int 0, .ref a18, .int 0, .int 0, .int 0]))] sz)) (va_Qi (fun (r : Int32) (_ : Unit) => r = (-2)) (MB D [(cB, .byte), (cI, .int), (cJ, .long), (cZ, .boolean), (cT, .object RX7), (cR, .object RX3)] [(a0, .inr (10, [.int 0, .ref a1, .ref a2, .ref a3, .ref a4, .ref a5, .int 0, .int 0, .int 0, .int 0, .int 0, .long 0, .int 0, .int 0, .int 0, .int (-1), .ref a6, .ref a7, .ref a8, .ref a9, .ref a10, .ref a11, .ref a12, .ref a13, .int 0, .int 0, .ref a14, .ref a15, .int 0, .int 0, .int 0, .ref a16, .ref a17, .int 0, .int 0, .int 0, .int 0, .int 0, .ref a18, .int 0, .int 0, .int 0]))] sz (fun (u : Unit) => [(a0, .inr (10, [.int 0, .ref a1, .ref a2, .ref a3, .ref a4, .ref a5, .int 0, .int 0, .int 0, .int 0, .int 0, .long 0, .int 0, .int 0, .int 0, .int (-1), .ref a6, .ref a7, .ref a8, .ref a9, .ref a10, .ref a11, .ref a12, .ref a13, .int 0, .int 0, .ref a14, .ref a15, .int 0, .int 0, .int 0, .ref a16, .ref a17, .int 0, .int 0, .int 0, .int 0, .int 0, .ref a18, .int 0, .int 0, .int 0]))])) (va_A [(a0, .inr (10, [.int 0, .ref a1, .ref a2, .ref a3, .ref a4, .ref a5, .int 0, .int 0, .int 0, .int 0, .int 0, .long 0, .int 0, .int 0, .int 0, .int (-1), .ref a6, .ref a7, .ref a8, .ref a9, .ref a10, .ref a11, .ref a12, .ref a13, .int 0, .int 0, .ref a14, .ref a15, .int 0, .int 0, .int 0, .ref a16, .ref a17, .int 0, .int 0, .int 0, .int 0, .int 0, .ref a18, .int 0, .int 0, .int 0]))] sz)) 0 0 (va_A [(a0, .inr (10, [.int 0, .ref a1, .ref a2, .ref a3, .ref a4, .ref a5, .int 0, .int 0, .int 0, .int 0, .int 0, .long 0, .int 0, .int 0, .int 0, .int (-1), .ref a6, .ref a7, .ref a8, .ref a9, .ref a10, .ref a11, .ref a12, .ref a13, .int 0, .int 0, .ref a14, .ref a15, .int 0, .int 0, .int 0, .ref a16, .ref a17, .int 0, .int 0, .int 0, .int 0, .int 0, .ref a18, .int 0, .int 0, .int 0]))] sz) := by
  refine pm (by decide) (Nat.le_of_ble_eq_true rfl) ?_
  intro p e s m below meth c ls hx hb hr hml hown hlk hnm hts hv hl
  have hown : s.vm.findClass RX10 = some m.cls := hown
  have hl : lv_has ls 2 [(0, .ref a0), (1, .int x0)] := hl
  obtain ⟨hsz, hP, hK, hD0, hE⟩ := hv
  subst hsz
  have hD := hD0.self (sz := s.heap.size)
  obtain ⟨AA, hAe⟩ : ∃ AA, AA = va_A [(a0, .inr (10, [.int 0, .ref a1, .ref a2, .ref a3, .ref a4, .ref a5, .int 0, .int 0, .int 0, .int 0, .int 0, .long 0, .int 0, .int 0, .int 0, .int (-1), .ref a6, .ref a7, .ref a8, .ref a9, .ref a10, .ref a11, .ref a12, .ref a13, .int 0, .int 0, .ref a14, .ref a15, .int 0, .int 0, .int 0, .ref a16, .ref a17, .int 0, .int 0, .int 0, .int 0, .int 0, .ref a18, .int 0, .int 0, .int 0]))] s.heap.size := ⟨_, rfl⟩
  rw [← hAe] at hD
  have hA : ∀ q : Nat, s.heap.size ≤ q → AA q := fun q h => by rw [hAe]; exact Or.inr h
  have hS : va_S AA s.heap s.heap [] := va_S.rf
  obtain ⟨-, hAOT, hAOR, hAOI⟩ := id hE
  refine lv_aload_n hx hb dX10_back_0 rfl (lv_at hl 0 rfl) ?_
  refine lv_iconst (v := 0) hx hb dX10_back_1 (by decide) ?_
  refine va_put (D := D) (ci := 10) (v := .int 0) (ty := .int) (C := RX10) (T := TX10) (N := 42) hx hb hts (fun w h => uc_in w (inX10 w h)) tyX10 tyX10_ok nmX10 hown hK hP hD hS 0 rfl rfl 0 (by decide) (hts _ (uc_in _ q_f1188)) (fun _ h9 => h9) rfl (by decide +kernel) rfl rfl (Nat.le_of_ble_eq_true rfl) dX10_back_2 (fun H locs hP hD hS => ?_)
  have hP : va_P D vwCl [(a0, .inr (10, [.int 0, .ref a1, .ref a2, .ref a3, .ref a4, .ref a5, .int 0, .int 0, .int 0, .int 0, .int 0, .long 0, .int 0, .int 0, .int 0, .int (-1), .ref a6, .ref a7, .ref a8, .ref a9, .ref a10, .ref a11, .ref a12, .ref a13, .int 0, .int 0, .ref a14, .ref a15, .int 0, .int 0, .int 0, .ref a16, .ref a17, .int 0, .int 0, .int 0, .int 0, .int 0, .ref a18, .int 0, .int 0, .int 0]))] H := hP
  have hD : va_D AA [(a0, .inr (10, [.int 0, .ref a1, .ref a2, .ref a3, .ref a4, .ref a5, .int 0, .int 0, .int 0, .int 0, .int 0, .long 0, .int 0, .int 0, .int 0, .int (-1), .ref a6, .ref a7, .ref a8, .ref a9, .ref a10, .ref a11, .ref a12, .ref a13, .int 0, .int 0, .ref a14, .ref a15, .int 0, .int 0, .int 0, .ref a16, .ref a17, .int 0, .int 0, .int 0, .int 0, .int 0, .ref a18, .int 0, .int 0, .int 0]))] := hD
  refine lv_iload_n hx hb dX10_back_5 rfl (lv_at hl 1 rfl) ?_
  refine lv_i2l (v := x0.toInt64) hx hb dX10_back_6 rfl ?_
  refine lv_lconst (v := 0) hx hb dX10_back_7 (by decide) ?_
  refine lv_ldc2 (v := 2) hx hb hown (hts _ (uc_in _ q_k1909)) dX10_back_8 ?_
  refine csR (n := 3) (As := [.long x0.toInt64, .long 0, .long 2]) (rest := []) ⟨hx, hb, hml, hown, hts⟩ uc_in (k_in l D [(cB, .byte), (cI, .int), (cJ, .long), (cZ, .boolean), (cT, .object RX7), (cR, .object RX3)] x0.toInt64 0 2 0 (if_neg (fun q9 => hy0 ((in64 (x := x0) (lo := 0) (hi := 2) (by decide) (by decide)).mp q9))).symm) q_m1324 q_s1325 q_i11 q_c1326 (by decide +kernel) ⟨(Nat.le_of_ble_eq_true rfl), (Nat.le_of_ble_eq_true rfl)⟩ ⟨(Nat.le_of_ble_eq_true rfl), (Nat.le_of_ble_eq_true rfl)⟩ hK (hP.sub (ws' := []) [] rfl) rfl hl.1 rfl (Nat.le_of_ble_eq_true rfl) dX10_back_11 ?_
  refine lv_if_ne (tgt := 20) hx hb dX10_back_14 (by decide) (fun c9 => absurd (by decide) c9) (fun _ => ?_)
  refine lv_bipush (v := (-2)) hx hb dX10_back_17 (by decide) ?_
  subst hAe
  have hP9 := hP.sub (ws' := [(a0, .inr (10, [.int 0, .ref a1, .ref a2, .ref a3, .ref a4, .ref a5, .int 0, .int 0, .int 0, .int 0, .int 0, .long 0, .int 0, .int 0, .int 0, .int (-1), .ref a6, .ref a7, .ref a8, .ref a9, .ref a10, .ref a11, .ref a12, .ref a13, .int 0, .int 0, .ref a14, .ref a15, .int 0, .int 0, .int 0, .ref a16, .ref a17, .int 0, .int 0, .int 0, .int 0, .int 0, .ref a18, .int 0, .int 0, .int 0]))]) [0] rfl
  have hD9 := hD.sub (ws' := [(a0, .inr (10, [.int 0, .ref a1, .ref a2, .ref a3, .ref a4, .ref a5, .int 0, .int 0, .int 0, .int 0, .int 0, .long 0, .int 0, .int 0, .int 0, .int (-1), .ref a6, .ref a7, .ref a8, .ref a9, .ref a10, .ref a11, .ref a12, .ref a13, .int 0, .int 0, .ref a14, .ref a15, .int 0, .int 0, .int 0, .ref a16, .ref a17, .int 0, .int 0, .int 0, .int 0, .int 0, .ref a18, .int 0, .int 0, .int 0]))]) [0] rfl rfl
  exact W.iret hx hb hr (fun t ht hW => ⟨⟨(-2), (), rfl, rfl, by rw [ht]; exact hP9, va_K.moved hW.alike hK, hD9⟩, hS.F ht⟩) hS.2.2 dX10_back_19
set_option maxHeartbeats 4000000 in
set_option maxRecDepth 100000 in
theorem law_case_68 {p : Program} {l : Launch} {e : Env} {s : State} {m : MethodId} {below : List Frame} {meth : Method} {c : Code} {D : va_G} {cB cI cJ cZ cT cR : ClassId} {b : Nat} {xs : Nat → Int32} {A B : Nat → Nat} {H : Heap} {locs : List Loc} {ls : Array Slot} (C0 : lw_At p s m meth c b 6 xs) (hE : EX s) (hK : va_K D vwCl [(cB, .byte), (cI, .int), (cJ, .long), (cZ, .boolean), (cT, .object RX7), (cR, .object RX3)] s) (hP : va_P D vwCl (fwAll cB cI cJ cZ cT cR A B) H) (hD : va_D (fun q : Nat => s.heap.size ≤ q) (fwAll cB cI cJ cZ cT cR A B)) (hS : va_S (fun q : Nat => s.heap.size ≤ q) s.heap H locs) (hl : lv_has ls 4 [(3, .int 0), (2, .ref (B 0)), (1, .ref (A 0)), (0, .ref b)]) : W p l e room_1 s m #[Value.ref b] below meth c H locs 180 4779 (lw_Z below #[Value.ref b] s) (F0 m 2160 ls []) := by
  obtain ⟨hx, hb, hr, hml, hown, hts, hX, hbl, hlocks, hgv⟩ := id C0
  have hown : s.vm.findClass RL = some m.cls := hown
  have hb : c.code = cL_law := hb
  have hA : ∀ q : Nat, s.heap.size ≤ q → (fun q : Nat => s.heap.size ≤ q) q := fun _ h => h
  have hbA : ¬ (fun q : Nat => s.heap.size ≤ q) b := Nat.not_le.mpr hbl
  have hP := hP.sub (ws' := [((A 0), .inr (9, [.ref (A 1), .ref (A 3), .ref (A 12), .ref (A 21), .int 0, .ref (A 49), .ref (A 51), .ref (A 60), .ref (A 61), .ref (A 62), .ref (A 63), .ref (A 64)])), ((B 0), .inr (10, [.int 0, .ref (B 1), .ref (B 2), .ref (B 3), .ref (B 4), .ref (B 5), .int 0, .int 0, .int 0, .int 0, .int 0, .long 0, .int 0, .int 0, .int 0, .int (-1), .ref (B 6), .ref (B 7), .ref (B 8), .ref (B 9), .ref (B 10), .ref (B 11), .ref (B 12), .ref (B 13), .int 0, .int 0, .ref (B 14), .ref (B 15), .int 0, .int 0, .int 0, .ref (B 16), .ref (B 17), .int 0, .int 0, .int 0, .int 0, .int 0, .ref (B 18), .int 0, .int 0, .int 0])), ((B 11), .inl (cZ, 3, .inl (fun _ => 0)))]) [0, 60, 71] rfl
  have hD := hD.sub (ws' := [((A 0), .inr (9, [.ref (A 1), .ref (A 3), .ref (A 12), .ref (A 21), .int 0, .ref (A 49), .ref (A 51), .ref (A 60), .ref (A 61), .ref (A 62), .ref (A 63), .ref (A 64)])), ((B 0), .inr (10, [.int 0, .ref (B 1), .ref (B 2), .ref (B 3), .ref (B 4), .ref (B 5), .int 0, .int 0, .int 0, .int 0, .int 0, .long 0, .int 0, .int 0, .int 0, .int (-1), .ref (B 6), .ref (B 7), .ref (B 8), .ref (B 9), .ref (B 10), .ref (B 11), .ref (B 12), .ref (B 13), .int 0, .int 0, .ref (B 14), .ref (B 15), .int 0, .int 0, .int 0, .ref (B 16), .ref (B 17), .int 0, .int 0, .int 0, .int 0, .int 0, .ref (B 18), .int 0, .int 0, .int 0])), ((B 11), .inl (cZ, 3, .inl (fun _ => 0)))]) [0, 60, 71] rfl rfl
  refine lv_aload_n hx hb dL_law_2160 rfl (lv_at hl 2 rfl) ?_
  refine lv_aload_n hx hb dL_law_2161 rfl (lv_at hl 3 rfl) ?_
  refine lv_iload_n hx hb dL_law_2162 rfl (lv_at hl 0 rfl) ?_
  refine lv_iconst (v := 1) hx hb dL_law_2163 (by decide) ?_
  refine lv_iadd hx hb dL_law_2164 ?_
  refine pv_i (v := 1) (by decide) ?_
  refine va_sld hx hb hX hbl hbA hS (vp_in_iff.mpr ⟨by decide, by decide⟩) dL_law_2165 ?_
  refine lv_topi (fun p1 ep1 => ?_)
  by_cases hc1 : 0 ≤ p1 ∧ p1 ≤ 2
  · rcases case3 hc1 with e9 | e9 | e9
    · subst e9
      refine cvR (n := 1) (As := [.int 0]) (rest := []) ⟨hx, hb, hml, hown, hts⟩ (fun _ h => uw_in h) (kX9_back_0 l D cB cI cJ cZ cT cR (A 0) (A 1) (A 3) (A 12) (A 21) (A 49) (A 51) (A 60) (A 61) (A 62) (A 63) (A 64)) q_m1154 q_n1155 q_e1156 q_i1 q_c1157 (by decide +kernel) ⟨(Nat.le_of_ble_eq_true rfl), (Nat.le_of_ble_eq_true rfl)⟩ ⟨(Nat.le_of_ble_eq_true rfl), (Nat.le_of_ble_eq_true rfl)⟩ hK (hP.sub (ws' := [((A 0), .inr (9, [.ref (A 1), .ref (A 3), .ref (A 12), .ref (A 21), .int 0, .ref (A 49), .ref (A 51), .ref (A 60), .ref (A 61), .ref (A 62), .ref (A 63), .ref (A 64)]))]) [0] rfl) 9 0 rfl rfl rfl hl.1 rfl (Nat.le_of_ble_eq_true rfl) dL_law_2166 ?_
      refine lv_aload_n hx hb dL_law_2169 rfl (lv_at hl 1 rfl) ?_
      refine lv_aload_n hx hb dL_law_2170 rfl (lv_at hl 3 rfl) ?_
      refine lv_iload_n hx hb dL_law_2171 rfl (lv_at hl 0 rfl) ?_
      refine lv_iconst (v := 1) hx hb dL_law_2172 (by decide) ?_
      refine lv_iadd hx hb dL_law_2173 ?_
      refine pv_i (v := 1) (by decide) ?_
      refine va_sld hx hb hX hbl hbA hS (vp_in_iff.mpr ⟨by decide, by decide⟩) dL_law_2174 ?_
      refine pv_i (v := 0) ep1.symm ?_
      refine cvM (n := 1) (As := [.int 0]) (rest := [.int (-6)]) (wr := [((A 0), .inr (9, [.ref (A 1), .ref (A 3), .ref (A 12), .ref (A 21), .int 0, .ref (A 49), .ref (A 51), .ref (A 60), .ref (A 61), .ref (A 62), .ref (A 63), .ref (A 64)]))]) ⟨hx, hb, hml, hown, hts⟩ (fun _ h => uw_in h) (kX10_back_0 l D cB cI cJ cZ cT cR (B 0) (B 11) (B 1) (B 2) (B 3) (B 4) (B 5) (B 6) (B 7) (B 8) (B 9) (B 10) (B 12) (B 13) (B 14) (B 15) (B 16) (B 17) (B 18) H.size) q_m1910 q_n1911 q_e1912 q_i11 q_c1913 (by decide +kernel) ⟨(Nat.le_of_ble_eq_true rfl), (Nat.le_of_ble_eq_true rfl)⟩ ⟨(Nat.le_of_ble_eq_true rfl), (Nat.le_of_ble_eq_true rfl)⟩ hE hK hP hD hS hA [1, 2] [0] rfl rfl rfl rfl (by decide) 10 0 rfl rfl rfl hl.1 rfl (Nat.le_of_ble_eq_true rfl) dL_law_2175 (fun r9 u H locs hpo hP hD hS => ?_)
      have hP : va_P D vwCl [((A 0), .inr (9, [.ref (A 1), .ref (A 3), .ref (A 12), .ref (A 21), .int 0, .ref (A 49), .ref (A 51), .ref (A 60), .ref (A 61), .ref (A 62), .ref (A 63), .ref (A 64)])), ((B 0), .inr (10, [.int 0, .ref (B 1), .ref (B 2), .ref (B 3), .ref (B 4), .ref (B 5), .int 0, .int 0, .int 0, .int 0, .int 0, .long 0, .int 0, .int 0, .int 0, .int (-1), .ref (B 6), .ref (B 7), .ref (B 8), .ref (B 9), .ref (B 10), .ref (B 11), .ref (B 12), .ref (B 13), .int 0, .int 0, .ref (B 14), .ref (B 15), .int 0, .int 0, .int 0, .ref (B 16), .ref (B 17), .int 0, .int 0, .int 0, .int 0, .int 0, .ref (B 18), .int 0, .int 0, .int 0])), ((B 11), .inl (cZ, 3, .inl (fun _ => 0)))] H := hP
      have hD : va_D (fun q : Nat => s.heap.size ≤ q) [((A 0), .inr (9, [.ref (A 1), .ref (A 3), .ref (A 12), .ref (A 21), .int 0, .ref (A 49), .ref (A 51), .ref (A 60), .ref (A 61), .ref (A 62), .ref (A 63), .ref (A 64)])), ((B 0), .inr (10, [.int 0, .ref (B 1), .ref (B 2), .ref (B 3), .ref (B 4), .ref (B 5), .int 0, .int 0, .int 0, .int 0, .int 0, .long 0, .int 0, .int 0, .int 0, .int (-1), .ref (B 6), .ref (B 7), .ref (B 8), .ref (B 9), .ref (B 10), .ref (B 11), .ref (B 12), .ref (B 13), .int 0, .int 0, .ref (B 14), .ref (B 15), .int 0, .int 0, .int 0, .ref (B 16), .ref (B 17), .int 0, .int 0, .int 0, .int 0, .int 0, .ref (B 18), .int 0, .int 0, .int 0])), ((B 11), .inl (cZ, 3, .inl (fun _ => 0)))] := hD
      refine W.cs (cells' := 180) (slots' := 4779) rfl rfl ?_
      have hpo : r9 = (-6) := hpo
      subst hpo
      refine lv_icmp_eq (tgt := 2362) hx hb dL_law_2178 (by decide) (fun _ => ?_) (fun c9 => absurd (by decide) c9)
      exact law_end C0 hS (Nat.le_of_ble_eq_true rfl) (Nat.le_of_ble_eq_true rfl) ls hl
    · subst e9
      refine cvR (n := 1) (As := [.int 1]) (rest := []) ⟨hx, hb, hml, hown, hts⟩ (fun _ h => uw_in h) (kX9_back_1 l D cB cI cJ cZ cT cR (A 0) (A 1) (A 3) (A 12) (A 21) (A 49) (A 51) (A 60) (A 61) (A 62) (A 63) (A 64)) q_m1154 q_n1155 q_e1156 q_i1 q_c1157 (by decide +kernel) ⟨(Nat.le_of_ble_eq_true rfl), (Nat.le_of_ble_eq_true rfl)⟩ ⟨(Nat.le_of_ble_eq_true rfl), (Nat.le_of_ble_eq_true rfl)⟩ hK (hP.sub (ws' := [((A 0), .inr (9, [.ref (A 1), .ref (A 3), .ref (A 12), .ref (A 21), .int 0, .ref (A 49), .ref (A 51), .ref (A 60), .ref (A 61), .ref (A 62), .ref (A 63), .ref (A 64)]))]) [0] rfl) 9 0 rfl rfl rfl hl.1 rfl (Nat.le_of_ble_eq_true rfl) dL_law_2166 ?_
      refine lv_aload_n hx hb dL_law_2169 rfl (lv_at hl 1 rfl) ?_
      refine lv_aload_n hx hb dL_law_2170 rfl (lv_at hl 3 rfl) ?_
      refine lv_iload_n hx hb dL_law_2171 rfl (lv_at hl 0 rfl) ?_
      refine lv_iconst (v := 1) hx hb dL_law_2172 (by decide) ?_
      refine lv_iadd hx hb dL_law_2173 ?_
      refine pv_i (v := 1) (by decide) ?_
      refine va_sld hx hb hX hbl hbA hS (vp_in_iff.mpr ⟨by decide, by decide⟩) dL_law_2174 ?_
      refine pv_i (v := 1) ep1.symm ?_
      refine cvM (n := 1) (As := [.int 1]) (rest := [.int (-6)]) (wr := [((A 0), .inr (9, [.ref (A 1), .ref (A 3), .ref (A 12), .ref (A 21), .int 0, .ref (A 49), .ref (A 51), .ref (A 60), .ref (A 61), .ref (A 62), .ref (A 63), .ref (A 64)]))]) ⟨hx, hb, hml, hown, hts⟩ (fun _ h => uw_in h) (kX10_back_1 l D cB cI cJ cZ cT cR (B 0) (B 11) (B 1) (B 2) (B 3) (B 4) (B 5) (B 6) (B 7) (B 8) (B 9) (B 10) (B 12) (B 13) (B 14) (B 15) (B 16) (B 17) (B 18) H.size) q_m1910 q_n1911 q_e1912 q_i11 q_c1913 (by decide +kernel) ⟨(Nat.le_of_ble_eq_true rfl), (Nat.le_of_ble_eq_true rfl)⟩ ⟨(Nat.le_of_ble_eq_true rfl), (Nat.le_of_ble_eq_true rfl)⟩ hE hK hP hD hS hA [1, 2] [0] rfl rfl rfl rfl (by decide) 10 0 rfl rfl rfl hl.1 rfl (Nat.le_of_ble_eq_true rfl) dL_law_2175 (fun r9 u H locs hpo hP hD hS => ?_)
      have hP : va_P D vwCl [((A 0), .inr (9, [.ref (A 1), .ref (A 3), .ref (A 12), .ref (A 21), .int 0, .ref (A 49), .ref (A 51), .ref (A 60), .ref (A 61), .ref (A 62), .ref (A 63), .ref (A 64)])), ((B 0), .inr (10, [.int 0, .ref (B 1), .ref (B 2), .ref (B 3), .ref (B 4), .ref (B 5), .int 0, .int 0, .int 0, .int 0, .int 0, .long 0, .int 0, .int 0, .int 0, .int (-1), .ref (B 6), .ref (B 7), .ref (B 8), .ref (B 9), .ref (B 10), .ref (B 11), .ref (B 12), .ref (B 13), .int 0, .int 0, .ref (B 14), .ref (B 15), .int 0, .int 0, .int 0, .ref (B 16), .ref (B 17), .int 0, .int 0, .int 0, .int 0, .int 0, .ref (B 18), .int 0, .int 0, .int 0])), ((B 11), .inl (cZ, 3, .inl (fun _ => 0)))] H := hP
      have hD : va_D (fun q : Nat => s.heap.size ≤ q) [((A 0), .inr (9, [.ref (A 1), .ref (A 3), .ref (A 12), .ref (A 21), .int 0, .ref (A 49), .ref (A 51), .ref (A 60), .ref (A 61), .ref (A 62), .ref (A 63), .ref (A 64)])), ((B 0), .inr (10, [.int 0, .ref (B 1), .ref (B 2), .ref (B 3), .ref (B 4), .ref (B 5), .int 0, .int 0, .int 0, .int 0, .int 0, .long 0, .int 0, .int 0, .int 0, .int (-1), .ref (B 6), .ref (B 7), .ref (B 8), .ref (B 9), .ref (B 10), .ref (B 11), .ref (B 12), .ref (B 13), .int 0, .int 0, .ref (B 14), .ref (B 15), .int 0, .int 0, .int 0, .ref (B 16), .ref (B 17), .int 0, .int 0, .int 0, .int 0, .int 0, .ref (B 18), .int 0, .int 0, .int 0])), ((B 11), .inl (cZ, 3, .inl (fun _ => 0)))] := hD
      refine W.cs (cells' := 180) (slots' := 4779) rfl rfl ?_
      have hpo : r9 = (-6) := hpo
      subst hpo
      refine lv_icmp_eq (tgt := 2362) hx hb dL_law_2178 (by decide) (fun _ => ?_) (fun c9 => absurd (by decide) c9)
      exact law_end C0 hS (Nat.le_of_ble_eq_true rfl) (Nat.le_of_ble_eq_true rfl) ls hl
    · subst e9
      refine cvR (n := 1) (As := [.int 2]) (rest := []) ⟨hx, hb, hml, hown, hts⟩ (fun _ h => uw_in h) (kX9_back_2 l D cB cI cJ cZ cT cR (A 0) (A 1) (A 3) (A 12) (A 21) (A 49) (A 51) (A 60) (A 61) (A 62) (A 63) (A 64)) q_m1154 q_n1155 q_e1156 q_i1 q_c1157 (by decide +kernel) ⟨(Nat.le_of_ble_eq_true rfl), (Nat.le_of_ble_eq_true rfl)⟩ ⟨(Nat.le_of_ble_eq_true rfl), (Nat.le_of_ble_eq_true rfl)⟩ hK (hP.sub (ws' := [((A 0), .inr (9, [.ref (A 1), .ref (A 3), .ref (A 12), .ref (A 21), .int 0, .ref (A 49), .ref (A 51), .ref (A 60), .ref (A 61), .ref (A 62), .ref (A 63), .ref (A 64)]))]) [0] rfl) 9 0 rfl rfl rfl hl.1 rfl (Nat.le_of_ble_eq_true rfl) dL_law_2166 ?_
      refine lv_aload_n hx hb dL_law_2169 rfl (lv_at hl 1 rfl) ?_
      refine lv_aload_n hx hb dL_law_2170 rfl (lv_at hl 3 rfl) ?_
      refine lv_iload_n hx hb dL_law_2171 rfl (lv_at hl 0 rfl) ?_
      refine lv_iconst (v := 1) hx hb dL_law_2172 (by decide) ?_
      refine lv_iadd hx hb dL_law_2173 ?_
      refine pv_i (v := 1) (by decide) ?_
      refine va_sld hx hb hX hbl hbA hS (vp_in_iff.mpr ⟨by decide, by decide⟩) dL_law_2174 ?_
      refine pv_i (v := 2) ep1.symm ?_
      refine cvM (n := 1) (As := [.int 2]) (rest := [.int (-6)]) (wr := [((A 0), .inr (9, [.ref (A 1), .ref (A 3), .ref (A 12), .ref (A 21), .int 0, .ref (A 49), .ref (A 51), .ref (A 60), .ref (A 61), .ref (A 62), .ref (A 63), .ref (A 64)]))]) ⟨hx, hb, hml, hown, hts⟩ (fun _ h => uw_in h) (kX10_back_2 l D cB cI cJ cZ cT cR (B 0) (B 11) (B 1) (B 2) (B 3) (B 4) (B 5) (B 6) (B 7) (B 8) (B 9) (B 10) (B 12) (B 13) (B 14) (B 15) (B 16) (B 17) (B 18) H.size) q_m1910 q_n1911 q_e1912 q_i11 q_c1913 (by decide +kernel) ⟨(Nat.le_of_ble_eq_true rfl), (Nat.le_of_ble_eq_true rfl)⟩ ⟨(Nat.le_of_ble_eq_true rfl), (Nat.le_of_ble_eq_true rfl)⟩ hE hK hP hD hS hA [1, 2] [0] rfl rfl rfl rfl (by decide) 10 0 rfl rfl rfl hl.1 rfl (Nat.le_of_ble_eq_true rfl) dL_law_2175 (fun r9 u H locs hpo hP hD hS => ?_)
      have hP : va_P D vwCl [((A 0), .inr (9, [.ref (A 1), .ref (A 3), .ref (A 12), .ref (A 21), .int 0, .ref (A 49), .ref (A 51), .ref (A 60), .ref (A 61), .ref (A 62), .ref (A 63), .ref (A 64)])), ((B 0), .inr (10, [.int 0, .ref (B 1), .ref (B 2), .ref (B 3), .ref (B 4), .ref (B 5), .int 0, .int 0, .int 0, .int 0, .int 0, .long 0, .int 0, .int 0, .int 0, .int (-1), .ref (B 6), .ref (B 7), .ref (B 8), .ref (B 9), .ref (B 10), .ref (B 11), .ref (B 12), .ref (B 13), .int 0, .int 0, .ref (B 14), .ref (B 15), .int 0, .int 0, .int 0, .ref (B 16), .ref (B 17), .int 0, .int 0, .int 0, .int 0, .int 0, .ref (B 18), .int 0, .int 0, .int 0])), ((B 11), .inl (cZ, 3, .inl (fun _ => 0)))] H := hP
      have hD : va_D (fun q : Nat => s.heap.size ≤ q) [((A 0), .inr (9, [.ref (A 1), .ref (A 3), .ref (A 12), .ref (A 21), .int 0, .ref (A 49), .ref (A 51), .ref (A 60), .ref (A 61), .ref (A 62), .ref (A 63), .ref (A 64)])), ((B 0), .inr (10, [.int 0, .ref (B 1), .ref (B 2), .ref (B 3), .ref (B 4), .ref (B 5), .int 0, .int 0, .int 0, .int 0, .int 0, .long 0, .int 0, .int 0, .int 0, .int (-1), .ref (B 6), .ref (B 7), .ref (B 8), .ref (B 9), .ref (B 10), .ref (B 11), .ref (B 12), .ref (B 13), .int 0, .int 0, .ref (B 14), .ref (B 15), .int 0, .int 0, .int 0, .ref (B 16), .ref (B 17), .int 0, .int 0, .int 0, .int 0, .int 0, .ref (B 18), .int 0, .int 0, .int 0])), ((B 11), .inl (cZ, 3, .inl (fun _ => 0)))] := hD
      refine W.cs (cells' := 180) (slots' := 4779) rfl rfl ?_
      have hpo : r9 = (-6) := hpo
      subst hpo
      refine lv_icmp_eq (tgt := 2362) hx hb dL_law_2178 (by decide) (fun _ => ?_) (fun c9 => absurd (by decide) c9)
      exact law_end C0 hS (Nat.le_of_ble_eq_true rfl) (Nat.le_of_ble_eq_true rfl) ls hl
  · refine cvR (n := 1) (As := [.int p1]) (rest := []) ⟨hx, hb, hml, hown, hts⟩ (fun _ h => uw_in h) (kX9_back_3 l D cB cI cJ cZ cT cR (A 0) (A 1) (A 3) (A 12) (A 21) (A 49) (A 51) (A 60) (A 61) (A 62) (A 63) (A 64) p1 hc1) q_m1154 q_n1155 q_e1156 q_i1 q_c1157 (by decide +kernel) ⟨(Nat.le_of_ble_eq_true rfl), (Nat.le_of_ble_eq_true rfl)⟩ ⟨(Nat.le_of_ble_eq_true rfl), (Nat.le_of_ble_eq_true rfl)⟩ hK (hP.sub (ws' := [((A 0), .inr (9, [.ref (A 1), .ref (A 3), .ref (A 12), .ref (A 21), .int 0, .ref (A 49), .ref (A 51), .ref (A 60), .ref (A 61), .ref (A 62), .ref (A 63), .ref (A 64)]))]) [0] rfl) 9 0 rfl rfl rfl hl.1 rfl (Nat.le_of_ble_eq_true rfl) dL_law_2166 ?_
    refine lv_aload_n hx hb dL_law_2169 rfl (lv_at hl 1 rfl) ?_
    refine lv_aload_n hx hb dL_law_2170 rfl (lv_at hl 3 rfl) ?_
    refine lv_iload_n hx hb dL_law_2171 rfl (lv_at hl 0 rfl) ?_
    refine lv_iconst (v := 1) hx hb dL_law_2172 (by decide) ?_
    refine lv_iadd hx hb dL_law_2173 ?_
    refine pv_i (v := 1) (by decide) ?_
    refine va_sld hx hb hX hbl hbA hS (vp_in_iff.mpr ⟨by decide, by decide⟩) dL_law_2174 ?_
    refine pv_i (v := p1) ep1.symm ?_
    refine cvM (n := 1) (As := [.int p1]) (rest := [.int (-2)]) (wr := [((A 0), .inr (9, [.ref (A 1), .ref (A 3), .ref (A 12), .ref (A 21), .int 0, .ref (A 49), .ref (A 51), .ref (A 60), .ref (A 61), .ref (A 62), .ref (A 63), .ref (A 64)])), ((B 11), .inl (cZ, 3, .inl (fun _ => 0)))]) ⟨hx, hb, hml, hown, hts⟩ (fun _ h => uw_in h) (kX10_back_3 l D cB cI cJ cZ cT cR (B 0) (B 1) (B 2) (B 3) (B 4) (B 5) (B 6) (B 7) (B 8) (B 9) (B 10) (B 11) (B 12) (B 13) (B 14) (B 15) (B 16) (B 17) (B 18) p1 hc1 H.size) q_m1910 q_n1911 q_e1912 q_i11 q_c1913 (by decide +kernel) ⟨(Nat.le_of_ble_eq_true rfl), (Nat.le_of_ble_eq_true rfl)⟩ ⟨(Nat.le_of_ble_eq_true rfl), (Nat.le_of_ble_eq_true rfl)⟩ hE hK hP hD hS hA [1] [0, 2] rfl rfl rfl rfl (by decide) 10 0 rfl rfl rfl hl.1 rfl (Nat.le_of_ble_eq_true rfl) dL_law_2175 (fun r9 u H locs hpo hP hD hS => ?_)
    have hP : va_P D vwCl [((A 0), .inr (9, [.ref (A 1), .ref (A 3), .ref (A 12), .ref (A 21), .int 0, .ref (A 49), .ref (A 51), .ref (A 60), .ref (A 61), .ref (A 62), .ref (A 63), .ref (A 64)])), ((B 11), .inl (cZ, 3, .inl (fun _ => 0))), ((B 0), .inr (10, [.int 0, .ref (B 1), .ref (B 2), .ref (B 3), .ref (B 4), .ref (B 5), .int 0, .int 0, .int 0, .int 0, .int 0, .long 0, .int 0, .int 0, .int 0, .int (-1), .ref (B 6), .ref (B 7), .ref (B 8), .ref (B 9), .ref (B 10), .ref (B 11), .ref (B 12), .ref (B 13), .int 0, .int 0, .ref (B 14), .ref (B 15), .int 0, .int 0, .int 0, .ref (B 16), .ref (B 17), .int 0, .int 0, .int 0, .int 0, .int 0, .ref (B 18), .int 0, .int 0, .int 0]))] H := hP
    have hD : va_D (fun q : Nat => s.heap.size ≤ q) [((A 0), .inr (9, [.ref (A 1), .ref (A 3), .ref (A 12), .ref (A 21), .int 0, .ref (A 49), .ref (A 51), .ref (A 60), .ref (A 61), .ref (A 62), .ref (A 63), .ref (A 64)])), ((B 11), .inl (cZ, 3, .inl (fun _ => 0))), ((B 0), .inr (10, [.int 0, .ref (B 1), .ref (B 2), .ref (B 3), .ref (B 4), .ref (B 5), .int 0, .int 0, .int 0, .int 0, .int 0, .long 0, .int 0, .int 0, .int 0, .int (-1), .ref (B 6), .ref (B 7), .ref (B 8), .ref (B 9), .ref (B 10), .ref (B 11), .ref (B 12), .ref (B 13), .int 0, .int 0, .ref (B 14), .ref (B 15), .int 0, .int 0, .int 0, .ref (B 16), .ref (B 17), .int 0, .int 0, .int 0, .int 0, .int 0, .ref (B 18), .int 0, .int 0, .int 0]))] := hD
    refine W.cs (cells' := 180) (slots' := 4779) rfl rfl ?_
    have hpo : r9 = (-2) := hpo
    subst hpo
    refine lv_icmp_eq (tgt := 2362) hx hb dL_law_2178 (by decide) (fun _ => ?_) (fun c9 => absurd (by decide) c9)
    exact law_end C0 hS (Nat.le_of_ble_eq_true rfl) (Nat.le_of_ble_eq_true rfl) ls hl
set_option maxHeartbeats 4000000 in
set_option maxRecDepth 100000 in
theorem kX9_row_0 (l : Launch) (D : va_G) (cB cI cJ cZ cT cR : ClassId) (a0 a1 a2 a3 a4 a5 a6 a7 a8 a9 a10 a11 : Nat) (x0 : Int32) (x1 : Int32) (x2 : Int32) (hy0 : 0 ≤ x0 ∧ x0 ≤ 3) (hy1 : 0 ≤ x1 ∧ x1 ≤ 3) (hy2 : 60 < x2) : Met l yX9_row (uc yX9_row cX9_row 4 (some .int)) (rmL 3 0 0) (va_Pc [.ref a0, .int x0, .int x1, .int x2] (RPre D [(cB, .byte), (cI, .int), (cJ, .long), (cZ, .boolean), (cT, .object RX7), (cR, .object RX3)] [(a0, .inr (9, [.ref a1, .ref a2, .ref a3, .ref a4, .int 0, .ref a5, .ref a6, .ref a7, .ref a8, .ref a9, .ref a10, .ref a11]))])) (QcRead (-2)) 0 0 (fun _ => False) := by
  refine pm (by decide) (Nat.le_of_ble_eq_true rfl) ?_
  intro p e s m below meth c ls hx hb hr hml hown hlk hnm hts hv hl
  have hown : s.vm.findClass RX9 = some m.cls := hown
  have hl : lv_has ls 4 [(0, .ref a0), (1, .int x0), (2, .int x1), (3, .int x2)] := hl
  obtain ⟨hP, hK⟩ := hv
  refine lv_iload_n hx hb dX9_row_0 rfl (lv_at hl 1 rfl) ?_
  refine csR (n := 1) (As := [.int x0]) (rest := []) ⟨hx, hb, hml, hown, hts⟩ uc_in (kX9_isSlot_0 l D cB cI cJ cZ cT cR x0 hy0) q_m911 q_s912 q_i1 q_c913 (by decide +kernel) ⟨(Nat.le_of_ble_eq_true rfl), (Nat.le_of_ble_eq_true rfl)⟩ ⟨(Nat.le_of_ble_eq_true rfl), (Nat.le_of_ble_eq_true rfl)⟩ hK (hP.sub (ws' := []) [] rfl) rfl hl.1 rfl (Nat.le_of_ble_eq_true rfl) dX9_row_1 ?_
  refine lv_if_eq (tgt := 22) hx hb dX9_row_4 (by decide) (fun c9 => absurd c9 (by decide)) (fun _ => ?_)
  refine lv_iload_n hx hb dX9_row_7 rfl (lv_at hl 2 rfl) ?_
  refine lv_iconst (v := 0) hx hb dX9_row_8 (by decide) ?_
  refine lv_iconst (v := 3) hx hb dX9_row_9 (by decide) ?_
  refine csR (n := 3) (As := [.int x1, .int 0, .int 3]) (rest := []) ⟨hx, hb, hml, hown, hts⟩ uc_in (k_isWithin l D [(cB, .byte), (cI, .int), (cJ, .long), (cZ, .boolean), (cT, .object RX7), (cR, .object RX3)] x1 0 3 1 (if_pos hy1).symm) q_m651 q_s652 q_i1 q_c653 (by decide +kernel) ⟨(Nat.le_of_ble_eq_true rfl), (Nat.le_of_ble_eq_true rfl)⟩ ⟨(Nat.le_of_ble_eq_true rfl), (Nat.le_of_ble_eq_true rfl)⟩ hK (hP.sub (ws' := []) [] rfl) rfl hl.1 rfl (Nat.le_of_ble_eq_true rfl) dX9_row_10 ?_
  refine lv_if_eq (tgt := 22) hx hb dX9_row_13 (by decide) (fun c9 => absurd c9 (by decide)) (fun _ => ?_)
  refine lv_iload_n hx hb dX9_row_16 rfl (lv_at hl 3 rfl) ?_
  refine lv_bipush (v := 60) hx hb dX9_row_17 (by decide) ?_
  refine lv_icmp_le (tgt := 25) hx hb dX9_row_19 (by decide) (fun c9 => absurd c9 (Int32.not_le.mpr hy2)) (fun _ => ?_)
  refine lv_bipush (v := (-2)) hx hb dX9_row_22 (by decide) ?_
  exact W.iret hx hb hr (fun t ht _ => ⟨rfl, ht⟩) (fun _ h => by cases h) dX9_row_24
set_option maxHeartbeats 4000000 in
set_option maxRecDepth 100000 in
theorem kX10_row_0 (l : Launch) (D : va_G) (cB cI cJ cZ cT cR : ClassId) (a0 a1 a2 a3 a4 a5 a6 a7 a8 a9 a10 a11 a12 a13 a14 a15 a16 a17 a18 : Nat) (x0 : Int32) (x1 : Int32) (x2 : Int32) (hy0 : 0 ≤ x0 ∧ x0 ≤ 3) (hy1 : 0 ≤ x1 ∧ x1 ≤ 3) (hy2 : 60 < x2) (sz : Nat) : Met l yX10_row (uc yX10_row cX10_row 5 (some .int)) (rmL 3 0 0) (va_Pc [.ref a0, .int x0, .int x1, .int x2] (MPre D [(cB, .byte), (cI, .int), (cJ, .long), (cZ, .boolean), (cT, .object RX7), (cR, .object RX3)] [(a0, .inr (10, [.int 0, .ref a1, .ref a2, .ref a3, .ref a4, .ref a5, .int 0, .int 0, .int 0, .int 0, .int 0, .long 0, .int 0, .int 0, .int 0, .int (-1), .ref a6, .ref a7, .ref a8, .ref a9, .ref a10, .ref a11, .ref a12, .ref a13, .int 0, .int 0, .ref a14, .ref a15, .int 0, .int 0, .int 0, .ref a16, .ref a17, .int 0, .int 0, .int 0, .int 0, .int 0, .ref a18, .int 0, .int 0, .int 0]))] sz)) (va_Qi (fun (r : Int32) (_ : Unit) => r = (-2)) (MB D [(cB, .byte), (cI, .int), (cJ, .long), (cZ, .boolean), (cT, .object RX7), (cR, .object RX3)] [(a0, .inr (10, [.int 0, .ref a1, .ref a2, .ref a3, .ref a4, .ref a5, .int 0, .int 0, .int 0, .int 0, .int 0, .long 0, .int 0, .int 0, .int 0, .int (-1), .ref a6, .ref a7, .ref a8, .ref a9, .ref a10, .ref a11, .ref a12, .ref a13, .int 0, .int 0, .ref a14, .ref a15, .int 0, .int 0, .int 0, .ref a16, .ref a17, .int 0, .int 0, .int 0, .int 0, .int 0, .ref a18, .int 0, .int 0, .int 0]))] sz (fun (u : Unit) => [(a0, .inr (10, [.int 0, .ref a1, .ref a2, .ref a3, .ref a4, .ref a5, .int 0, .int 0, .int 0, .int 0, .int 0, .long 0, .int 0, .int 0, .int 0, .int (-1), .ref a6, .ref a7, .ref a8, .ref a9, .ref a10, .ref a11, .ref a12, .ref a13, .int 0, .int 0, .ref a14, .ref a15, .int 0, .int 0, .int 0, .ref a16, .ref a17, .int 0, .int 0, .int 0, .int 0, .int 0, .ref a18, .int 0, .int 0, .int 0]))])) (va_A [(a0, .inr (10, [.int 0, .ref a1, .ref a2, .ref a3, .ref a4, .ref a5, .int 0, .int 0, .int 0, .int 0, .int 0, .long 0, .int 0, .int 0, .int 0, .int (-1), .ref a6, .ref a7, .ref a8, .ref a9, .ref a10, .ref a11, .ref a12, .ref a13, .int 0, .int 0, .ref a14, .ref a15, .int 0, .int 0, .int 0, .ref a16, .ref a17, .int 0, .int 0, .int 0, .int 0, .int 0, .ref a18, .int 0, .int 0, .int 0]))] sz)) 0 0 (va_A [(a0, .inr (10, [.int 0, .ref a1, .ref a2, .ref a3, .ref a4, .ref a5, .int 0, .int 0, .int 0, .int 0, .int 0, .long 0, .int 0, .int 0, .int 0, .int (-1), .ref a6, .ref a7, .ref a8, .ref a9, .ref a10, .ref a11, .ref a12, .ref a13, .int 0, .int 0, .ref a14, .ref a15, .int 0, .int 0, .int 0, .ref a16, .ref a17, .int 0, .int 0, .int 0, .int 0, .int 0, .ref a18, .int 0, .int 0, .int 0]))] sz) := by
  refine pm (by decide) (Nat.le_of_ble_eq_true rfl) ?_
  intro p e s m below meth c ls hx hb hr hml hown hlk hnm hts hv hl
  have hown : s.vm.findClass RX10 = some m.cls := hown
  have hl : lv_has ls 5 [(0, .ref a0), (1, .int x0), (2, .int x1), (3, .int x2)] := hl
  obtain ⟨hsz, hP, hK, hD0, hE⟩ := hv
  subst hsz
  have hD := hD0.self (sz := s.heap.size)
  obtain ⟨AA, hAe⟩ : ∃ AA, AA = va_A [(a0, .inr (10, [.int 0, .ref a1, .ref a2, .ref a3, .ref a4, .ref a5, .int 0, .int 0, .int 0, .int 0, .int 0, .long 0, .int 0, .int 0, .int 0, .int (-1), .ref a6, .ref a7, .ref a8, .ref a9, .ref a10, .ref a11, .ref a12, .ref a13, .int 0, .int 0, .ref a14, .ref a15, .int 0, .int 0, .int 0, .ref a16, .ref a17, .int 0, .int 0, .int 0, .int 0, .int 0, .ref a18, .int 0, .int 0, .int 0]))] s.heap.size := ⟨_, rfl⟩
  rw [← hAe] at hD
  have hA : ∀ q : Nat, s.heap.size ≤ q → AA q := fun q h => by rw [hAe]; exact Or.inr h
  have hS : va_S AA s.heap s.heap [] := va_S.rf
  obtain ⟨-, hAOT, hAOR, hAOI⟩ := id hE
  refine lv_aload_n hx hb dX10_row_0 rfl (lv_at hl 0 rfl) ?_
  refine lv_iconst (v := 0) hx hb dX10_row_1 (by decide) ?_
  refine va_put (D := D) (ci := 10) (v := .int 0) (ty := .int) (C := RX10) (T := TX10) (N := 42) hx hb hts (fun w h => uc_in w (inX10 w h)) tyX10 tyX10_ok nmX10 hown hK hP hD hS 0 rfl rfl 0 (by decide) (hts _ (uc_in _ q_f1188)) (fun _ h9 => h9) rfl (by decide +kernel) rfl rfl (Nat.le_of_ble_eq_true rfl) dX10_row_2 (fun H locs hP hD hS => ?_)
  have hP : va_P D vwCl [(a0, .inr (10, [.int 0, .ref a1, .ref a2, .ref a3, .ref a4, .ref a5, .int 0, .int 0, .int 0, .int 0, .int 0, .long 0, .int 0, .int 0, .int 0, .int (-1), .ref a6, .ref a7, .ref a8, .ref a9, .ref a10, .ref a11, .ref a12, .ref a13, .int 0, .int 0, .ref a14, .ref a15, .int 0, .int 0, .int 0, .ref a16, .ref a17, .int 0, .int 0, .int 0, .int 0, .int 0, .ref a18, .int 0, .int 0, .int 0]))] H := hP
  have hD : va_D AA [(a0, .inr (10, [.int 0, .ref a1, .ref a2, .ref a3, .ref a4, .ref a5, .int 0, .int 0, .int 0, .int 0, .int 0, .long 0, .int 0, .int 0, .int 0, .int (-1), .ref a6, .ref a7, .ref a8, .ref a9, .ref a10, .ref a11, .ref a12, .ref a13, .int 0, .int 0, .ref a14, .ref a15, .int 0, .int 0, .int 0, .ref a16, .ref a17, .int 0, .int 0, .int 0, .int 0, .int 0, .ref a18, .int 0, .int 0, .int 0]))] := hD
  refine lv_iload_n hx hb dX10_row_5 rfl (lv_at hl 1 rfl) ?_
  refine csR (n := 1) (As := [.int x0]) (rest := []) ⟨hx, hb, hml, hown, hts⟩ uc_in (kX10_isSlot_0 l D cB cI cJ cZ cT cR x0 hy0) q_m1320 q_s1321 q_i11 q_c1322 (by decide +kernel) ⟨(Nat.le_of_ble_eq_true rfl), (Nat.le_of_ble_eq_true rfl)⟩ ⟨(Nat.le_of_ble_eq_true rfl), (Nat.le_of_ble_eq_true rfl)⟩ hK (hP.sub (ws' := []) [] rfl) rfl hl.1 rfl (Nat.le_of_ble_eq_true rfl) dX10_row_6 ?_
  refine lv_if_eq (tgt := 30) hx hb dX10_row_9 (by decide) (fun c9 => absurd c9 (by decide)) (fun _ => ?_)
  refine lv_iload_n hx hb dX10_row_12 rfl (lv_at hl 2 rfl) ?_
  refine lv_i2l (v := x1.toInt64) hx hb dX10_row_13 rfl ?_
  refine lv_lconst (v := 0) hx hb dX10_row_14 (by decide) ?_
  refine lv_ldc2 (v := 3) hx hb hown (hts _ (uc_in _ q_k1323)) dX10_row_15 ?_
  refine csR (n := 3) (As := [.long x1.toInt64, .long 0, .long 3]) (rest := []) ⟨hx, hb, hml, hown, hts⟩ uc_in (k_in l D [(cB, .byte), (cI, .int), (cJ, .long), (cZ, .boolean), (cT, .object RX7), (cR, .object RX3)] x1.toInt64 0 3 1 (if_pos ((in64 (x := x1) (lo := 0) (hi := 3) (by decide) (by decide)).mpr hy1)).symm) q_m1324 q_s1325 q_i11 q_c1326 (by decide +kernel) ⟨(Nat.le_of_ble_eq_true rfl), (Nat.le_of_ble_eq_true rfl)⟩ ⟨(Nat.le_of_ble_eq_true rfl), (Nat.le_of_ble_eq_true rfl)⟩ hK (hP.sub (ws' := []) [] rfl) rfl hl.1 rfl (Nat.le_of_ble_eq_true rfl) dX10_row_18 ?_
  refine lv_if_eq (tgt := 30) hx hb dX10_row_21 (by decide) (fun c9 => absurd c9 (by decide)) (fun _ => ?_)
  refine lv_iload_n hx hb dX10_row_24 rfl (lv_at hl 3 rfl) ?_
  refine lv_bipush (v := 60) hx hb dX10_row_25 (by decide) ?_
  refine lv_icmp_le (tgt := 33) hx hb dX10_row_27 (by decide) (fun c9 => absurd c9 (Int32.not_le.mpr hy2)) (fun _ => ?_)
  refine lv_bipush (v := (-2)) hx hb dX10_row_30 (by decide) ?_
  subst hAe
  have hP9 := hP.sub (ws' := [(a0, .inr (10, [.int 0, .ref a1, .ref a2, .ref a3, .ref a4, .ref a5, .int 0, .int 0, .int 0, .int 0, .int 0, .long 0, .int 0, .int 0, .int 0, .int (-1), .ref a6, .ref a7, .ref a8, .ref a9, .ref a10, .ref a11, .ref a12, .ref a13, .int 0, .int 0, .ref a14, .ref a15, .int 0, .int 0, .int 0, .ref a16, .ref a17, .int 0, .int 0, .int 0, .int 0, .int 0, .ref a18, .int 0, .int 0, .int 0]))]) [0] rfl
  have hD9 := hD.sub (ws' := [(a0, .inr (10, [.int 0, .ref a1, .ref a2, .ref a3, .ref a4, .ref a5, .int 0, .int 0, .int 0, .int 0, .int 0, .long 0, .int 0, .int 0, .int 0, .int (-1), .ref a6, .ref a7, .ref a8, .ref a9, .ref a10, .ref a11, .ref a12, .ref a13, .int 0, .int 0, .ref a14, .ref a15, .int 0, .int 0, .int 0, .ref a16, .ref a17, .int 0, .int 0, .int 0, .int 0, .int 0, .ref a18, .int 0, .int 0, .int 0]))]) [0] rfl rfl
  exact W.iret hx hb hr (fun t ht hW => ⟨⟨(-2), (), rfl, rfl, by rw [ht]; exact hP9, va_K.moved hW.alike hK, hD9⟩, hS.F ht⟩) hS.2.2 dX10_row_32
set_option maxHeartbeats 4000000 in
set_option maxRecDepth 100000 in
theorem kX9_row_1 (l : Launch) (D : va_G) (cB cI cJ cZ cT cR : ClassId) (a0 a1 a2 a3 a4 a5 a6 a7 a8 a9 a10 a11 : Nat) (x0 : Int32) (x1 : Int32) (x2 : Int32) (hy0 : 0 ≤ x0 ∧ x0 ≤ 3) (hy1 : 0 ≤ x1 ∧ x1 ≤ 3) (hy2 : ¬ (60 < x2)) (hy3 : x2 < 0) : Met l yX9_row (uc yX9_row cX9_row 4 (some .int)) (rmL 3 0 0) (va_Pc [.ref a0, .int x0, .int x1, .int x2] (RPre D [(cB, .byte), (cI, .int), (cJ, .long), (cZ, .boolean), (cT, .object RX7), (cR, .object RX3)] [(a0, .inr (9, [.ref a1, .ref a2, .ref a3, .ref a4, .int 0, .ref a5, .ref a6, .ref a7, .ref a8, .ref a9, .ref a10, .ref a11]))])) (QcRead (-3)) 0 0 (fun _ => False) := by
  refine pm (by decide) (Nat.le_of_ble_eq_true rfl) ?_
  intro p e s m below meth c ls hx hb hr hml hown hlk hnm hts hv hl
  have hown : s.vm.findClass RX9 = some m.cls := hown
  have hl : lv_has ls 4 [(0, .ref a0), (1, .int x0), (2, .int x1), (3, .int x2)] := hl
  obtain ⟨hP, hK⟩ := hv
  refine lv_iload_n hx hb dX9_row_0 rfl (lv_at hl 1 rfl) ?_
  refine csR (n := 1) (As := [.int x0]) (rest := []) ⟨hx, hb, hml, hown, hts⟩ uc_in (kX9_isSlot_0 l D cB cI cJ cZ cT cR x0 hy0) q_m911 q_s912 q_i1 q_c913 (by decide +kernel) ⟨(Nat.le_of_ble_eq_true rfl), (Nat.le_of_ble_eq_true rfl)⟩ ⟨(Nat.le_of_ble_eq_true rfl), (Nat.le_of_ble_eq_true rfl)⟩ hK (hP.sub (ws' := []) [] rfl) rfl hl.1 rfl (Nat.le_of_ble_eq_true rfl) dX9_row_1 ?_
  refine lv_if_eq (tgt := 22) hx hb dX9_row_4 (by decide) (fun c9 => absurd c9 (by decide)) (fun _ => ?_)
  refine lv_iload_n hx hb dX9_row_7 rfl (lv_at hl 2 rfl) ?_
  refine lv_iconst (v := 0) hx hb dX9_row_8 (by decide) ?_
  refine lv_iconst (v := 3) hx hb dX9_row_9 (by decide) ?_
  refine csR (n := 3) (As := [.int x1, .int 0, .int 3]) (rest := []) ⟨hx, hb, hml, hown, hts⟩ uc_in (k_isWithin l D [(cB, .byte), (cI, .int), (cJ, .long), (cZ, .boolean), (cT, .object RX7), (cR, .object RX3)] x1 0 3 1 (if_pos hy1).symm) q_m651 q_s652 q_i1 q_c653 (by decide +kernel) ⟨(Nat.le_of_ble_eq_true rfl), (Nat.le_of_ble_eq_true rfl)⟩ ⟨(Nat.le_of_ble_eq_true rfl), (Nat.le_of_ble_eq_true rfl)⟩ hK (hP.sub (ws' := []) [] rfl) rfl hl.1 rfl (Nat.le_of_ble_eq_true rfl) dX9_row_10 ?_
  refine lv_if_eq (tgt := 22) hx hb dX9_row_13 (by decide) (fun c9 => absurd c9 (by decide)) (fun _ => ?_)
  refine lv_iload_n hx hb dX9_row_16 rfl (lv_at hl 3 rfl) ?_
  refine lv_bipush (v := 60) hx hb dX9_row_17 (by decide) ?_
  refine lv_icmp_le (tgt := 25) hx hb dX9_row_19 (by decide) (fun _ => ?_) (fun c9 => absurd (Int32.not_lt.mp hy2) c9)
  refine lv_iload_n hx hb dX9_row_25 rfl (lv_at hl 3 rfl) ?_
  refine lv_if_ge (tgt := 32) hx hb dX9_row_26 (by decide) (fun c9 => absurd c9 (Int32.not_le.mpr hy3)) (fun _ => ?_)
  refine lv_bipush (v := (-3)) hx hb dX9_row_29 (by decide) ?_
  exact W.iret hx hb hr (fun t ht _ => ⟨rfl, ht⟩) (fun _ h => by cases h) dX9_row_31
set_option maxHeartbeats 4000000 in
set_option maxRecDepth 100000 in
theorem kX10_row_1 (l : Launch) (D : va_G) (cB cI cJ cZ cT cR : ClassId) (a0 a1 a2 a3 a4 a5 a6 a7 a8 a9 a10 a11 a12 a13 a14 a15 a16 a17 a18 : Nat) (x0 : Int32) (x1 : Int32) (x2 : Int32) (hy0 : 0 ≤ x0 ∧ x0 ≤ 3) (hy1 : 0 ≤ x1 ∧ x1 ≤ 3) (hy2 : ¬ (60 < x2)) (hy3 : x2 < 0) (sz : Nat) : Met l yX10_row (uc yX10_row cX10_row 5 (some .int)) (rmL 3 0 0) (va_Pc [.ref a0, .int x0, .int x1, .int x2] (MPre D [(cB, .byte), (cI, .int), (cJ, .long), (cZ, .boolean), (cT, .object RX7), (cR, .object RX3)] [(a0, .inr (10, [.int 0, .ref a1, .ref a2, .ref a3, .ref a4, .ref a5, .int 0, .int 0, .int 0, .int 0, .int 0, .long 0, .int 0, .int 0, .int 0, .int (-1), .ref a6, .ref a7, .ref a8, .ref a9, .ref a10, .ref a11, .ref a12, .ref a13, .int 0, .int 0, .ref a14, .ref a15, .int 0, .int 0, .int 0, .ref a16, .ref a17, .int 0, .int 0, .int 0, .int 0, .int 0, .ref a18, .int 0, .int 0, .int 0]))] sz)) (va_Qi (fun (r : Int32) (_ : Unit) => r = (-3)) (MB D [(cB, .byte), (cI, .int), (cJ, .long), (cZ, .boolean), (cT, .object RX7), (cR, .object RX3)] [(a0, .inr (10, [.int 0, .ref a1, .ref a2, .ref a3, .ref a4, .ref a5, .int 0, .int 0, .int 0, .int 0, .int 0, .long 0, .int 0, .int 0, .int 0, .int (-1), .ref a6, .ref a7, .ref a8, .ref a9, .ref a10, .ref a11, .ref a12, .ref a13, .int 0, .int 0, .ref a14, .ref a15, .int 0, .int 0, .int 0, .ref a16, .ref a17, .int 0, .int 0, .int 0, .int 0, .int 0, .ref a18, .int 0, .int 0, .int 0]))] sz (fun (u : Unit) => [(a0, .inr (10, [.int 0, .ref a1, .ref a2, .ref a3, .ref a4, .ref a5, .int 0, .int 0, .int 0, .int 0, .int 0, .long 0, .int 0, .int 0, .int 0, .int (-1), .ref a6, .ref a7, .ref a8, .ref a9, .ref a10, .ref a11, .ref a12, .ref a13, .int 0, .int 0, .ref a14, .ref a15, .int 0, .int 0, .int 0, .ref a16, .ref a17, .int 0, .int 0, .int 0, .int 0, .int 0, .ref a18, .int 0, .int 0, .int 0]))])) (va_A [(a0, .inr (10, [.int 0, .ref a1, .ref a2, .ref a3, .ref a4, .ref a5, .int 0, .int 0, .int 0, .int 0, .int 0, .long 0, .int 0, .int 0, .int 0, .int (-1), .ref a6, .ref a7, .ref a8, .ref a9, .ref a10, .ref a11, .ref a12, .ref a13, .int 0, .int 0, .ref a14, .ref a15, .int 0, .int 0, .int 0, .ref a16, .ref a17, .int 0, .int 0, .int 0, .int 0, .int 0, .ref a18, .int 0, .int 0, .int 0]))] sz)) 0 0 (va_A [(a0, .inr (10, [.int 0, .ref a1, .ref a2, .ref a3, .ref a4, .ref a5, .int 0, .int 0, .int 0, .int 0, .int 0, .long 0, .int 0, .int 0, .int 0, .int (-1), .ref a6, .ref a7, .ref a8, .ref a9, .ref a10, .ref a11, .ref a12, .ref a13, .int 0, .int 0, .ref a14, .ref a15, .int 0, .int 0, .int 0, .ref a16, .ref a17, .int 0, .int 0, .int 0, .int 0, .int 0, .ref a18, .int 0, .int 0, .int 0]))] sz) := by
  refine pm (by decide) (Nat.le_of_ble_eq_true rfl) ?_
  intro p e s m below meth c ls hx hb hr hml hown hlk hnm hts hv hl
  have hown : s.vm.findClass RX10 = some m.cls := hown
  have hl : lv_has ls 5 [(0, .ref a0), (1, .int x0), (2, .int x1), (3, .int x2)] := hl
  obtain ⟨hsz, hP, hK, hD0, hE⟩ := hv
  subst hsz
  have hD := hD0.self (sz := s.heap.size)
  obtain ⟨AA, hAe⟩ : ∃ AA, AA = va_A [(a0, .inr (10, [.int 0, .ref a1, .ref a2, .ref a3, .ref a4, .ref a5, .int 0, .int 0, .int 0, .int 0, .int 0, .long 0, .int 0, .int 0, .int 0, .int (-1), .ref a6, .ref a7, .ref a8, .ref a9, .ref a10, .ref a11, .ref a12, .ref a13, .int 0, .int 0, .ref a14, .ref a15, .int 0, .int 0, .int 0, .ref a16, .ref a17, .int 0, .int 0, .int 0, .int 0, .int 0, .ref a18, .int 0, .int 0, .int 0]))] s.heap.size := ⟨_, rfl⟩
  rw [← hAe] at hD
  have hA : ∀ q : Nat, s.heap.size ≤ q → AA q := fun q h => by rw [hAe]; exact Or.inr h
  have hS : va_S AA s.heap s.heap [] := va_S.rf
  obtain ⟨-, hAOT, hAOR, hAOI⟩ := id hE
  refine lv_aload_n hx hb dX10_row_0 rfl (lv_at hl 0 rfl) ?_
  refine lv_iconst (v := 0) hx hb dX10_row_1 (by decide) ?_
  refine va_put (D := D) (ci := 10) (v := .int 0) (ty := .int) (C := RX10) (T := TX10) (N := 42) hx hb hts (fun w h => uc_in w (inX10 w h)) tyX10 tyX10_ok nmX10 hown hK hP hD hS 0 rfl rfl 0 (by decide) (hts _ (uc_in _ q_f1188)) (fun _ h9 => h9) rfl (by decide +kernel) rfl rfl (Nat.le_of_ble_eq_true rfl) dX10_row_2 (fun H locs hP hD hS => ?_)
  have hP : va_P D vwCl [(a0, .inr (10, [.int 0, .ref a1, .ref a2, .ref a3, .ref a4, .ref a5, .int 0, .int 0, .int 0, .int 0, .int 0, .long 0, .int 0, .int 0, .int 0, .int (-1), .ref a6, .ref a7, .ref a8, .ref a9, .ref a10, .ref a11, .ref a12, .ref a13, .int 0, .int 0, .ref a14, .ref a15, .int 0, .int 0, .int 0, .ref a16, .ref a17, .int 0, .int 0, .int 0, .int 0, .int 0, .ref a18, .int 0, .int 0, .int 0]))] H := hP
  have hD : va_D AA [(a0, .inr (10, [.int 0, .ref a1, .ref a2, .ref a3, .ref a4, .ref a5, .int 0, .int 0, .int 0, .int 0, .int 0, .long 0, .int 0, .int 0, .int 0, .int (-1), .ref a6, .ref a7, .ref a8, .ref a9, .ref a10, .ref a11, .ref a12, .ref a13, .int 0, .int 0, .ref a14, .ref a15, .int 0, .int 0, .int 0, .ref a16, .ref a17, .int 0, .int 0, .int 0, .int 0, .int 0, .ref a18, .int 0, .int 0, .int 0]))] := hD
  refine lv_iload_n hx hb dX10_row_5 rfl (lv_at hl 1 rfl) ?_
  refine csR (n := 1) (As := [.int x0]) (rest := []) ⟨hx, hb, hml, hown, hts⟩ uc_in (kX10_isSlot_0 l D cB cI cJ cZ cT cR x0 hy0) q_m1320 q_s1321 q_i11 q_c1322 (by decide +kernel) ⟨(Nat.le_of_ble_eq_true rfl), (Nat.le_of_ble_eq_true rfl)⟩ ⟨(Nat.le_of_ble_eq_true rfl), (Nat.le_of_ble_eq_true rfl)⟩ hK (hP.sub (ws' := []) [] rfl) rfl hl.1 rfl (Nat.le_of_ble_eq_true rfl) dX10_row_6 ?_
  refine lv_if_eq (tgt := 30) hx hb dX10_row_9 (by decide) (fun c9 => absurd c9 (by decide)) (fun _ => ?_)
  refine lv_iload_n hx hb dX10_row_12 rfl (lv_at hl 2 rfl) ?_
  refine lv_i2l (v := x1.toInt64) hx hb dX10_row_13 rfl ?_
  refine lv_lconst (v := 0) hx hb dX10_row_14 (by decide) ?_
  refine lv_ldc2 (v := 3) hx hb hown (hts _ (uc_in _ q_k1323)) dX10_row_15 ?_
  refine csR (n := 3) (As := [.long x1.toInt64, .long 0, .long 3]) (rest := []) ⟨hx, hb, hml, hown, hts⟩ uc_in (k_in l D [(cB, .byte), (cI, .int), (cJ, .long), (cZ, .boolean), (cT, .object RX7), (cR, .object RX3)] x1.toInt64 0 3 1 (if_pos ((in64 (x := x1) (lo := 0) (hi := 3) (by decide) (by decide)).mpr hy1)).symm) q_m1324 q_s1325 q_i11 q_c1326 (by decide +kernel) ⟨(Nat.le_of_ble_eq_true rfl), (Nat.le_of_ble_eq_true rfl)⟩ ⟨(Nat.le_of_ble_eq_true rfl), (Nat.le_of_ble_eq_true rfl)⟩ hK (hP.sub (ws' := []) [] rfl) rfl hl.1 rfl (Nat.le_of_ble_eq_true rfl) dX10_row_18 ?_
  refine lv_if_eq (tgt := 30) hx hb dX10_row_21 (by decide) (fun c9 => absurd c9 (by decide)) (fun _ => ?_)
  refine lv_iload_n hx hb dX10_row_24 rfl (lv_at hl 3 rfl) ?_
  refine lv_bipush (v := 60) hx hb dX10_row_25 (by decide) ?_
  refine lv_icmp_le (tgt := 33) hx hb dX10_row_27 (by decide) (fun _ => ?_) (fun c9 => absurd (Int32.not_lt.mp hy2) c9)
  refine lv_iload_n hx hb dX10_row_33 rfl (lv_at hl 3 rfl) ?_
  refine lv_if_ge (tgt := 40) hx hb dX10_row_34 (by decide) (fun c9 => absurd c9 (Int32.not_le.mpr hy3)) (fun _ => ?_)
  refine lv_bipush (v := (-3)) hx hb dX10_row_37 (by decide) ?_
  subst hAe
  have hP9 := hP.sub (ws' := [(a0, .inr (10, [.int 0, .ref a1, .ref a2, .ref a3, .ref a4, .ref a5, .int 0, .int 0, .int 0, .int 0, .int 0, .long 0, .int 0, .int 0, .int 0, .int (-1), .ref a6, .ref a7, .ref a8, .ref a9, .ref a10, .ref a11, .ref a12, .ref a13, .int 0, .int 0, .ref a14, .ref a15, .int 0, .int 0, .int 0, .ref a16, .ref a17, .int 0, .int 0, .int 0, .int 0, .int 0, .ref a18, .int 0, .int 0, .int 0]))]) [0] rfl
  have hD9 := hD.sub (ws' := [(a0, .inr (10, [.int 0, .ref a1, .ref a2, .ref a3, .ref a4, .ref a5, .int 0, .int 0, .int 0, .int 0, .int 0, .long 0, .int 0, .int 0, .int 0, .int (-1), .ref a6, .ref a7, .ref a8, .ref a9, .ref a10, .ref a11, .ref a12, .ref a13, .int 0, .int 0, .ref a14, .ref a15, .int 0, .int 0, .int 0, .ref a16, .ref a17, .int 0, .int 0, .int 0, .int 0, .int 0, .ref a18, .int 0, .int 0, .int 0]))]) [0] rfl rfl
  exact W.iret hx hb hr (fun t ht hW => ⟨⟨(-3), (), rfl, rfl, by rw [ht]; exact hP9, va_K.moved hW.alike hK, hD9⟩, hS.F ht⟩) hS.2.2 dX10_row_39
set_option maxHeartbeats 4000000 in
set_option maxRecDepth 100000 in
theorem kX9_isSlot_2 (l : Launch) (D : va_G) (cB cI cJ cZ cT cR : ClassId) : Met l yX9_isSlot (uc yX9_isSlot cX9_isSlot 1 (some .boolean)) (rmL 2 0 0) (va_Pc [.int 0] (RPre D [(cB, .byte), (cI, .int), (cJ, .long), (cZ, .boolean), (cT, .object RX7), (cR, .object RX3)] [])) (QcRead 1) 0 0 (fun _ => False) := by
  refine pm (by decide) (Nat.le_of_ble_eq_true rfl) ?_
  intro p e s m below meth c ls hx hb hr hml hown hlk hnm hts hv hl
  have hown : s.vm.findClass RX9 = some m.cls := hown
  have hl : lv_has ls 1 [(0, .int 0)] := hl
  obtain ⟨hP, hK⟩ := hv
  refine lv_iload_n hx hb dX9_isSlot_0 rfl (lv_at hl 0 rfl) ?_
  refine lv_iconst (v := 0) hx hb dX9_isSlot_1 (by decide) ?_
  refine lv_iconst (v := 3) hx hb dX9_isSlot_2 (by decide) ?_
  refine csR (n := 3) (As := [.int 0, .int 0, .int 3]) (rest := []) ⟨hx, hb, hml, hown, hts⟩ uc_in (k_isWithin l D [(cB, .byte), (cI, .int), (cJ, .long), (cZ, .boolean), (cT, .object RX7), (cR, .object RX3)] 0 0 3 1 (if_pos (by decide)).symm) q_m651 q_s652 q_i1 q_c653 (by decide +kernel) ⟨(Nat.le_of_ble_eq_true rfl), (Nat.le_of_ble_eq_true rfl)⟩ ⟨(Nat.le_of_ble_eq_true rfl), (Nat.le_of_ble_eq_true rfl)⟩ hK (hP.sub (ws' := []) [] rfl) rfl hl.1 rfl (Nat.le_of_ble_eq_true rfl) dX9_isSlot_3 ?_
  exact W.zret hx hb hr rfl (fun t ht _ => ⟨rfl, ht⟩) (fun _ h => by cases h) dX9_isSlot_6
set_option maxHeartbeats 4000000 in
set_option maxRecDepth 100000 in
theorem lp_X3_begin_429 {p : Program} {l : Launch} {e : Env} {R : Room} {s : State} {m : MethodId} {args : Array Value} {below : List Frame} {meth : Method} {c : Code} {cells slots : Nat} {Q : State → Prop} {D : va_G} {AA : Nat → Prop} {H0 : Heap} {Ts : List Cond} {cB cI cJ cZ cT cR : ClassId} {a0 : Nat} {a1 : Nat} {x0 : Int32} {x1 : Int32} (hx : p.tables.exec = Jvm.exec) (hb : c.code = cX3_begin) (hT : ∀ w ∈ uw, w ∈ Ts) (hts : ∀ w ∈ Ts, w.before args s = true) (hown : s.vm.findClass RX3 = some m.cls) (hK : va_K D vwCl [(cB, .byte), (cI, .int), (cJ, .long), (cZ, .boolean), (cT, .object RX7), (cR, .object RX3)] s)
    (kx : ∀ (H : Heap) (locs : List Loc) (ls : Array Slot), va_P D vwCl [(a0, .inr (3, [.int x1, .int x0, .ref a1])), (a1, .inl (cJ, 60, .inr (.inl (fun _ => 0))))] H → va_D AA [(a0, .inr (3, [.int x1, .int x0, .ref a1])), (a1, .inl (cJ, 60, .inr (.inl (fun _ => 0))))] → va_S AA H0 H locs → lv_has ls 4 [(3, .int 60), (0, .ref a0), (1, .int x0), (2, .int x1)] → W p l e R s m args below meth c H locs cells slots Q (F0 m 31 ls [])) :
    ∀ (j k : Nat), k + j = 60 → ∀ (H : Heap) (locs : List Loc) (ls : Array Slot), va_P D vwCl [(a0, .inr (3, [.int x1, .int x0, .ref a1])), (a1, .inl (cJ, 60, .inr (.inl (fun _ => 0))))] H → va_D AA [(a0, .inr (3, [.int x1, .int x0, .ref a1])), (a1, .inl (cJ, 60, .inr (.inl (fun _ => 0))))] → va_S AA H0 H locs → lv_has ls 4 [(3, .int (nI k)), (0, .ref a0), (1, .int x0), (2, .int x1)] → W p l e R s m args below meth c H locs cells slots Q (F0 m 12 ls []) := by
  intro j
  induction j with
  | zero =>
    intro k hk H locs ls hP hD hS hl
    refine lv_iload_n hx hb dX3_begin_12 rfl (lv_at hl 0 rfl) ?_
    refine lv_bipush (v := 60) hx hb dX3_begin_13 (by decide) ?_
    refine lv_icmp_ge (tgt := 31) hx hb dX3_begin_15 (by decide) (fun _ => ?_) (fun c9 => absurd (show (60 : Int32) ≤ nI k from nI_le (a := 60) (by omega) (by omega)) c9)
    have ek : k = 60 := by omega
    subst ek
    exact kx H locs ls hP hD hS hl
  | succ j ih =>
    intro k hk H locs ls hP hD hS hl
    refine lv_iload_n hx hb dX3_begin_12 rfl (lv_at hl 0 rfl) ?_
    refine lv_bipush (v := 60) hx hb dX3_begin_13 (by decide) ?_
    refine lv_icmp_ge (tgt := 31) hx hb dX3_begin_15 (by decide) (fun c9 => absurd c9 (show ¬ (60 : Int32) ≤ nI k from nI_ge (b := 60) (by omega) (by omega))) (fun _ => ?_)
    refine lv_aload_n hx hb dX3_begin_18 rfl (lv_at hl 1 rfl) ?_
    refine va_get (D := D) (ci := 3) (v := .ref a1) (C := RX3) (T := TX3) (N := 3) hx hb hts (fun w h => hT w (inX3 w h)) hown hK hP 0 rfl rfl 2 (by decide) (hts _ (hT _ q_f198)) (fun _ h9 => h9) rfl dX3_begin_19 ?_
    refine lv_iload_n hx hb dX3_begin_22 rfl (lv_at hl 0 rfl) ?_
    refine lv_lconst (v := 0) hx hb dX3_begin_23 (by decide) ?_
    refine va_last hx hb hK hP hD hS 1 2 rfl rfl (vp_in_nI (by omega) (by decide)) dX3_begin_24 (fun H locs hP hD hS => ?_)
    rw [updL0] at hP hD
    have hP : va_P D vwCl [(a0, .inr (3, [.int x1, .int x0, .ref a1])), (a1, .inl (cJ, 60, .inr (.inl (fun _ => 0))))] H := hP
    have hD : va_D AA [(a0, .inr (3, [.int x1, .int x0, .ref a1])), (a1, .inl (cJ, 60, .inr (.inl (fun _ => 0))))] := hD
    refine lv_iinc (v := (nI (k + 1))) (lv' := [(3, .int (nI (k + 1))), (0, .ref a0), (1, .int x0), (2, .int x1)]) hx hb dX3_begin_25 hl (k := 0) rfl (nI_1 k) (by decide) rfl (fun ls hl => ?_)
    refine lv_goto (tgt := 12) hx hb dX3_begin_28 (by decide) ?_
    exact ih (k + 1) (by omega) H locs ls hP hD hS (lv_sub hl [0, 1, 2, 3] rfl)
set_option maxHeartbeats 4000000 in
set_option maxRecDepth 100000 in
theorem kX3_begin_0 (l : Launch) (D : va_G) (cB cI cJ cZ cT cR : ClassId) (a0 a1 : Nat) (x0 : Int32) (x1 : Int32) (sz : Nat) : Met l yX3_begin (uc yX3_begin cX3_begin 4 none) (rmL 1 0 0) (va_Pc [.ref a0, .int x0, .int x1] (MPre D [(cB, .byte), (cI, .int), (cJ, .long), (cZ, .boolean), (cT, .object RX7), (cR, .object RX3)] [(a0, .inr (3, [.int (-1), .int 0, .ref a1])), (a1, .inl (cJ, 60, .inr (.inl (fun _ => 0))))] sz)) (va_Qv (fun (_ : Unit) => True) (MB D [(cB, .byte), (cI, .int), (cJ, .long), (cZ, .boolean), (cT, .object RX7), (cR, .object RX3)] [(a0, .inr (3, [.int (-1), .int 0, .ref a1])), (a1, .inl (cJ, 60, .inr (.inl (fun _ => 0))))] sz (fun (u : Unit) => [(a0, .inr (3, [.int x1, .int x0, .ref a1])), (a1, .inl (cJ, 60, .inr (.inl (fun _ => 0))))])) (va_A [(a0, .inr (3, [.int (-1), .int 0, .ref a1])), (a1, .inl (cJ, 60, .inr (.inl (fun _ => 0))))] sz)) 0 0 (va_A [(a0, .inr (3, [.int (-1), .int 0, .ref a1])), (a1, .inl (cJ, 60, .inr (.inl (fun _ => 0))))] sz) := by
  refine pm (by decide) (Nat.le_of_ble_eq_true rfl) ?_
  intro p e s m below meth c ls hx hb hr hml hown hlk hnm hts hv hl
  have hown : s.vm.findClass RX3 = some m.cls := hown
  have hl : lv_has ls 4 [(0, .ref a0), (1, .int x0), (2, .int x1)] := hl
  obtain ⟨hsz, hP, hK, hD0, hE⟩ := hv
  subst hsz
  have hD := hD0.self (sz := s.heap.size)
  obtain ⟨AA, hAe⟩ : ∃ AA, AA = va_A [(a0, .inr (3, [.int (-1), .int 0, .ref a1])), (a1, .inl (cJ, 60, .inr (.inl (fun _ => 0))))] s.heap.size := ⟨_, rfl⟩
  rw [← hAe] at hD
  have hA : ∀ q : Nat, s.heap.size ≤ q → AA q := fun q h => by rw [hAe]; exact Or.inr h
  have hS : va_S AA s.heap s.heap [] := va_S.rf
  obtain ⟨-, hAOT, hAOR, hAOI⟩ := id hE
  refine lv_aload_n hx hb dX3_begin_0 rfl (lv_at hl 0 rfl) ?_
  refine lv_iload_n hx hb dX3_begin_1 rfl (lv_at hl 1 rfl) ?_
  refine va_put (D := D) (ci := 3) (v := .int x0) (ty := .int) (C := RX3) (T := TX3) (N := 3) hx hb hts (fun w h => uc_in w (inX3 w h)) tyX3 tyX3_ok nmX3 hown hK hP hD hS 0 rfl rfl 1 (by decide) (hts _ (uc_in _ q_f196)) (fun _ h9 => h9) rfl (by decide +kernel) rfl rfl (Nat.le_of_ble_eq_true rfl) dX3_begin_2 (fun H locs hP hD hS => ?_)
  have hP : va_P D vwCl [(a0, .inr (3, [.int (-1), .int x0, .ref a1])), (a1, .inl (cJ, 60, .inr (.inl (fun _ => 0))))] H := hP
  have hD : va_D AA [(a0, .inr (3, [.int (-1), .int x0, .ref a1])), (a1, .inl (cJ, 60, .inr (.inl (fun _ => 0))))] := hD
  refine lv_aload_n hx hb dX3_begin_5 rfl (lv_at hl 0 rfl) ?_
  refine lv_iload_n hx hb dX3_begin_6 rfl (lv_at hl 2 rfl) ?_
  refine va_put (D := D) (ci := 3) (v := .int x1) (ty := .int) (C := RX3) (T := TX3) (N := 3) hx hb hts (fun w h => uc_in w (inX3 w h)) tyX3 tyX3_ok nmX3 hown hK hP hD hS 0 rfl rfl 0 (by decide) (hts _ (uc_in _ q_f192)) (fun _ h9 => h9) rfl (by decide +kernel) rfl rfl (Nat.le_of_ble_eq_true rfl) dX3_begin_7 (fun H locs hP hD hS => ?_)
  have hP : va_P D vwCl [(a0, .inr (3, [.int x1, .int x0, .ref a1])), (a1, .inl (cJ, 60, .inr (.inl (fun _ => 0))))] H := hP
  have hD : va_D AA [(a0, .inr (3, [.int x1, .int x0, .ref a1])), (a1, .inl (cJ, 60, .inr (.inl (fun _ => 0))))] := hD
  refine lv_iconst (v := 0) hx hb dX3_begin_10 (by decide) ?_
  refine lv_istore_n (lv' := [(3, .int 0), (0, .ref a0), (1, .int x0), (2, .int x1)]) hx hb dX3_begin_11 rfl hl (by decide) rfl (fun ls hl => ?_)
  refine lp_X3_begin_429 hx hb uc_in hts hown hK (fun H locs ls hP hD hS hl => ?_) 60 0 (by omega) H locs ls hP hD hS hl
  have hP : va_P D vwCl [(a0, .inr (3, [.int x1, .int x0, .ref a1])), (a1, .inl (cJ, 60, .inr (.inl (fun _ => 0))))] H := hP
  have hD : va_D AA [(a0, .inr (3, [.int x1, .int x0, .ref a1])), (a1, .inl (cJ, 60, .inr (.inl (fun _ => 0))))] := hD
  subst hAe
  have hP9 := hP.sub (ws' := [(a0, .inr (3, [.int x1, .int x0, .ref a1])), (a1, .inl (cJ, 60, .inr (.inl (fun _ => 0))))]) [0, 1] rfl
  have hD9 := hD.sub (ws' := [(a0, .inr (3, [.int x1, .int x0, .ref a1])), (a1, .inl (cJ, 60, .inr (.inl (fun _ => 0))))]) [0, 1] rfl rfl
  exact W.vret hx hb hr (fun t ht hW => ⟨⟨(), rfl, trivial, by rw [ht]; exact hP9, va_K.moved hW.alike hK, hD9⟩, hS.F ht⟩) hS.2.2 dX3_begin_31
set_option maxHeartbeats 4000000 in
set_option maxRecDepth 100000 in
theorem kX9_row_2 (l : Launch) (D : va_G) (cB cI cJ cZ cT cR : ClassId) (a0 a1 a2 a3 a4 a5 a6 a7 a8 a9 a10 a11 a12 a13 a14 a15 a16 : Nat) (x0 : Int32) (x1 : Int32) (hy0 : 0 ≤ x0 ∧ x0 ≤ 3) (hy1 : ¬ (60 < x1)) (hy2 : ¬ (x1 < 0)) (sz : Nat) : Met l yX9_row (uc yX9_row cX9_row 4 (some .int)) (rmL 3 0 0) (va_Pc [.ref a0, .int 0, .int x0, .int x1] (MPre D [(cB, .byte), (cI, .int), (cJ, .long), (cZ, .boolean), (cT, .object RX7), (cR, .object RX3)] [(a0, .inr (9, [.ref a4, .ref a5, .ref a6, .ref a7, .int 0, .ref a8, .ref a1, .ref a9, .ref a10, .ref a11, .ref a12, .ref a13])), (a1, .inl (cR, 4, .inr (.inr (.inr (.inr (va_up (va_up (va_up (va_up (fun _ => none) 0 (some a2)) 1 (some a14)) 2 (some a15)) 3 (some a16))))))), (a2, .inr (3, [.int (-1), .int 0, .ref a3])), (a3, .inl (cJ, 60, .inr (.inl (fun _ => 0))))] sz)) (va_Qi (fun (r : Int32) (_ : Unit) => r = 0) (MB D [(cB, .byte), (cI, .int), (cJ, .long), (cZ, .boolean), (cT, .object RX7), (cR, .object RX3)] [(a0, .inr (9, [.ref a4, .ref a5, .ref a6, .ref a7, .int 0, .ref a8, .ref a1, .ref a9, .ref a10, .ref a11, .ref a12, .ref a13])), (a1, .inl (cR, 4, .inr (.inr (.inr (.inr (va_up (va_up (va_up (va_up (fun _ => none) 0 (some a2)) 1 (some a14)) 2 (some a15)) 3 (some a16))))))), (a2, .inr (3, [.int (-1), .int 0, .ref a3])), (a3, .inl (cJ, 60, .inr (.inl (fun _ => 0))))] sz (fun (u : Unit) => [(a0, .inr (9, [.ref a4, .ref a5, .ref a6, .ref a7, .int 0, .ref a8, .ref a1, .ref a9, .ref a10, .ref a11, .ref a12, .ref a13])), (a1, .inl (cR, 4, .inr (.inr (.inr (.inr (va_up (va_up (va_up (va_up (fun _ => none) 0 (some a2)) 1 (some a14)) 2 (some a15)) 3 (some a16))))))), (a2, .inr (3, [.int x1, .int x0, .ref a3])), (a3, .inl (cJ, 60, .inr (.inl (fun _ => 0))))])) (va_A [(a0, .inr (9, [.ref a4, .ref a5, .ref a6, .ref a7, .int 0, .ref a8, .ref a1, .ref a9, .ref a10, .ref a11, .ref a12, .ref a13])), (a1, .inl (cR, 4, .inr (.inr (.inr (.inr (va_up (va_up (va_up (va_up (fun _ => none) 0 (some a2)) 1 (some a14)) 2 (some a15)) 3 (some a16))))))), (a2, .inr (3, [.int (-1), .int 0, .ref a3])), (a3, .inl (cJ, 60, .inr (.inl (fun _ => 0))))] sz)) 0 0 (va_A [(a0, .inr (9, [.ref a4, .ref a5, .ref a6, .ref a7, .int 0, .ref a8, .ref a1, .ref a9, .ref a10, .ref a11, .ref a12, .ref a13])), (a1, .inl (cR, 4, .inr (.inr (.inr (.inr (va_up (va_up (va_up (va_up (fun _ => none) 0 (some a2)) 1 (some a14)) 2 (some a15)) 3 (some a16))))))), (a2, .inr (3, [.int (-1), .int 0, .ref a3])), (a3, .inl (cJ, 60, .inr (.inl (fun _ => 0))))] sz) := by
  refine pm (by decide) (Nat.le_of_ble_eq_true rfl) ?_
  intro p e s m below meth c ls hx hb hr hml hown hlk hnm hts hv hl
  have hown : s.vm.findClass RX9 = some m.cls := hown
  have hl : lv_has ls 4 [(0, .ref a0), (1, .int 0), (2, .int x0), (3, .int x1)] := hl
  obtain ⟨hsz, hP, hK, hD0, hE⟩ := hv
  subst hsz
  have hD := hD0.self (sz := s.heap.size)
  obtain ⟨AA, hAe⟩ : ∃ AA, AA = va_A [(a0, .inr (9, [.ref a4, .ref a5, .ref a6, .ref a7, .int 0, .ref a8, .ref a1, .ref a9, .ref a10, .ref a11, .ref a12, .ref a13])), (a1, .inl (cR, 4, .inr (.inr (.inr (.inr (va_up (va_up (va_up (va_up (fun _ => none) 0 (some a2)) 1 (some a14)) 2 (some a15)) 3 (some a16))))))), (a2, .inr (3, [.int (-1), .int 0, .ref a3])), (a3, .inl (cJ, 60, .inr (.inl (fun _ => 0))))] s.heap.size := ⟨_, rfl⟩
  rw [← hAe] at hD
  have hA : ∀ q : Nat, s.heap.size ≤ q → AA q := fun q h => by rw [hAe]; exact Or.inr h
  have hS : va_S AA s.heap s.heap [] := va_S.rf
  obtain ⟨-, hAOT, hAOR, hAOI⟩ := id hE
  refine lv_iload_n hx hb dX9_row_0 rfl (lv_at hl 1 rfl) ?_
  refine csR (n := 1) (As := [.int 0]) (rest := []) ⟨hx, hb, hml, hown, hts⟩ uc_in (kX9_isSlot_2 l D cB cI cJ cZ cT cR ) q_m911 q_s912 q_i1 q_c913 (by decide +kernel) ⟨(Nat.le_of_ble_eq_true rfl), (Nat.le_of_ble_eq_true rfl)⟩ ⟨(Nat.le_of_ble_eq_true rfl), (Nat.le_of_ble_eq_true rfl)⟩ hK (hP.sub (ws' := []) [] rfl) rfl hl.1 rfl (Nat.le_of_ble_eq_true rfl) dX9_row_1 ?_
  refine lv_if_eq (tgt := 22) hx hb dX9_row_4 (by decide) (fun c9 => absurd c9 (by decide)) (fun _ => ?_)
  refine lv_iload_n hx hb dX9_row_7 rfl (lv_at hl 2 rfl) ?_
  refine lv_iconst (v := 0) hx hb dX9_row_8 (by decide) ?_
  refine lv_iconst (v := 3) hx hb dX9_row_9 (by decide) ?_
  refine csR (n := 3) (As := [.int x0, .int 0, .int 3]) (rest := []) ⟨hx, hb, hml, hown, hts⟩ uc_in (k_isWithin l D [(cB, .byte), (cI, .int), (cJ, .long), (cZ, .boolean), (cT, .object RX7), (cR, .object RX3)] x0 0 3 1 (if_pos hy0).symm) q_m651 q_s652 q_i1 q_c653 (by decide +kernel) ⟨(Nat.le_of_ble_eq_true rfl), (Nat.le_of_ble_eq_true rfl)⟩ ⟨(Nat.le_of_ble_eq_true rfl), (Nat.le_of_ble_eq_true rfl)⟩ hK (hP.sub (ws' := []) [] rfl) rfl hl.1 rfl (Nat.le_of_ble_eq_true rfl) dX9_row_10 ?_
  refine lv_if_eq (tgt := 22) hx hb dX9_row_13 (by decide) (fun c9 => absurd c9 (by decide)) (fun _ => ?_)
  refine lv_iload_n hx hb dX9_row_16 rfl (lv_at hl 3 rfl) ?_
  refine lv_bipush (v := 60) hx hb dX9_row_17 (by decide) ?_
  refine lv_icmp_le (tgt := 25) hx hb dX9_row_19 (by decide) (fun _ => ?_) (fun c9 => absurd (Int32.not_lt.mp hy1) c9)
  refine lv_iload_n hx hb dX9_row_25 rfl (lv_at hl 3 rfl) ?_
  refine lv_if_ge (tgt := 32) hx hb dX9_row_26 (by decide) (fun _ => ?_) (fun c9 => absurd (Int32.not_lt.mp hy2) c9)
  refine lv_aload_n hx hb dX9_row_32 rfl (lv_at hl 0 rfl) ?_
  refine va_get (D := D) (ci := 9) (v := .ref a1) (C := RX9) (T := TX9) (N := 12) hx hb hts (fun w h => uc_in w (inX9 w h)) hown hK hP 0 rfl rfl 6 (by decide) (hts _ (uc_in _ q_f389)) (fun _ h9 => h9) rfl dX9_row_33 ?_
  refine lv_iload_n hx hb dX9_row_36 rfl (lv_at hl 1 rfl) ?_
  refine va_aldq hx hb hK hP 1 5 rfl rfl (vp_in_iff.mpr ⟨by decide, by decide⟩) dX9_row_37 ?_
  refine pv_v (v := .ref a2) rfl ?_
  refine lv_iload_n hx hb dX9_row_38 rfl (lv_at hl 2 rfl) ?_
  refine lv_iload_n hx hb dX9_row_39 rfl (lv_at hl 3 rfl) ?_
  refine cvV (n := 2) (As := [.int x0, .int x1]) (rest := []) (wr := [(a0, .inr (9, [.ref a4, .ref a5, .ref a6, .ref a7, .int 0, .ref a8, .ref a1, .ref a9, .ref a10, .ref a11, .ref a12, .ref a13])), (a1, .inl (cR, 4, .inr (.inr (.inr (.inr (va_up (va_up (va_up (va_up (fun _ => none) 0 (some a2)) 1 (some a14)) 2 (some a15)) 3 (some a16)))))))]) ⟨hx, hb, hml, hown, hts⟩ uc_in (kX3_begin_0 l D cB cI cJ cZ cT cR a2 a3 x0 x1 H.size) q_m1162 q_n1163 q_e1164 q_i5 q_c1165 (by decide +kernel) ⟨(Nat.le_of_ble_eq_true rfl), (Nat.le_of_ble_eq_true rfl)⟩ ⟨(Nat.le_of_ble_eq_true rfl), (Nat.le_of_ble_eq_true rfl)⟩ hE hK hP hD hS hA [2, 3] [0, 1] rfl rfl rfl rfl (by decide) 3 0 rfl rfl rfl hl.1 rfl (Nat.le_of_ble_eq_true rfl) dX9_row_40 (fun u H locs hpo hP hD hS => ?_)
  have hP : va_P D vwCl [(a0, .inr (9, [.ref a4, .ref a5, .ref a6, .ref a7, .int 0, .ref a8, .ref a1, .ref a9, .ref a10, .ref a11, .ref a12, .ref a13])), (a1, .inl (cR, 4, .inr (.inr (.inr (.inr (va_up (va_up (va_up (va_up (fun _ => none) 0 (some a2)) 1 (some a14)) 2 (some a15)) 3 (some a16))))))), (a2, .inr (3, [.int x1, .int x0, .ref a3])), (a3, .inl (cJ, 60, .inr (.inl (fun _ => 0))))] H := hP
  have hD : va_D AA [(a0, .inr (9, [.ref a4, .ref a5, .ref a6, .ref a7, .int 0, .ref a8, .ref a1, .ref a9, .ref a10, .ref a11, .ref a12, .ref a13])), (a1, .inl (cR, 4, .inr (.inr (.inr (.inr (va_up (va_up (va_up (va_up (fun _ => none) 0 (some a2)) 1 (some a14)) 2 (some a15)) 3 (some a16))))))), (a2, .inr (3, [.int x1, .int x0, .ref a3])), (a3, .inl (cJ, 60, .inr (.inl (fun _ => 0))))] := hD
  refine W.cs (cells' := 0) (slots' := 0) rfl rfl ?_
  refine lv_iconst (v := 0) hx hb dX9_row_43 (by decide) ?_
  subst hAe
  have hP9 := hP.sub (ws' := [(a0, .inr (9, [.ref a4, .ref a5, .ref a6, .ref a7, .int 0, .ref a8, .ref a1, .ref a9, .ref a10, .ref a11, .ref a12, .ref a13])), (a1, .inl (cR, 4, .inr (.inr (.inr (.inr (va_up (va_up (va_up (va_up (fun _ => none) 0 (some a2)) 1 (some a14)) 2 (some a15)) 3 (some a16))))))), (a2, .inr (3, [.int x1, .int x0, .ref a3])), (a3, .inl (cJ, 60, .inr (.inl (fun _ => 0))))]) [0, 1, 2, 3] rfl
  have hD9 := hD.sub (ws' := [(a0, .inr (9, [.ref a4, .ref a5, .ref a6, .ref a7, .int 0, .ref a8, .ref a1, .ref a9, .ref a10, .ref a11, .ref a12, .ref a13])), (a1, .inl (cR, 4, .inr (.inr (.inr (.inr (va_up (va_up (va_up (va_up (fun _ => none) 0 (some a2)) 1 (some a14)) 2 (some a15)) 3 (some a16))))))), (a2, .inr (3, [.int x1, .int x0, .ref a3])), (a3, .inl (cJ, 60, .inr (.inl (fun _ => 0))))]) [0, 1, 2, 3] rfl rfl
  exact W.iret hx hb hr (fun t ht hW => ⟨⟨0, (), rfl, rfl, by rw [ht]; exact hP9, va_K.moved hW.alike hK, hD9⟩, hS.F ht⟩) hS.2.2 dX9_row_44
set_option maxHeartbeats 4000000 in
set_option maxRecDepth 100000 in
theorem kX10_isSlot_2 (l : Launch) (D : va_G) (cB cI cJ cZ cT cR : ClassId) : Met l yX10_isSlot (uc yX10_isSlot cX10_isSlot 1 (some .boolean)) (rmL 2 0 0) (va_Pc [.int 0] (RPre D [(cB, .byte), (cI, .int), (cJ, .long), (cZ, .boolean), (cT, .object RX7), (cR, .object RX3)] [])) (QcRead 1) 0 0 (fun _ => False) := by
  refine pm (by decide) (Nat.le_of_ble_eq_true rfl) ?_
  intro p e s m below meth c ls hx hb hr hml hown hlk hnm hts hv hl
  have hown : s.vm.findClass RX10 = some m.cls := hown
  have hl : lv_has ls 1 [(0, .int 0)] := hl
  obtain ⟨hP, hK⟩ := hv
  refine lv_iload_n hx hb dX10_isSlot_0 rfl (lv_at hl 0 rfl) ?_
  refine lv_i2l (v := 0) hx hb dX10_isSlot_1 (by decide) ?_
  refine lv_lconst (v := 0) hx hb dX10_isSlot_2 (by decide) ?_
  refine lv_ldc2 (v := 3) hx hb hown (hts _ (uc_in _ q_k1323)) dX10_isSlot_3 ?_
  refine csR (n := 3) (As := [.long 0, .long 0, .long 3]) (rest := []) ⟨hx, hb, hml, hown, hts⟩ uc_in (k_in l D [(cB, .byte), (cI, .int), (cJ, .long), (cZ, .boolean), (cT, .object RX7), (cR, .object RX3)] 0 0 3 1 (if_pos (by decide)).symm) q_m1324 q_s1325 q_i11 q_c1326 (by decide +kernel) ⟨(Nat.le_of_ble_eq_true rfl), (Nat.le_of_ble_eq_true rfl)⟩ ⟨(Nat.le_of_ble_eq_true rfl), (Nat.le_of_ble_eq_true rfl)⟩ hK (hP.sub (ws' := []) [] rfl) rfl hl.1 rfl (Nat.le_of_ble_eq_true rfl) dX10_isSlot_6 ?_
  exact W.zret hx hb hr rfl (fun t ht _ => ⟨rfl, ht⟩) (fun _ h => by cases h) dX10_isSlot_9
set_option maxHeartbeats 4000000 in
set_option maxRecDepth 100000 in
theorem lp_X10_row_433 {p : Program} {l : Launch} {e : Env} {R : Room} {s : State} {m : MethodId} {args : Array Value} {below : List Frame} {meth : Method} {c : Code} {cells slots : Nat} {Q : State → Prop} {D : va_G} {AA : Nat → Prop} {H0 : Heap} {Ts : List Cond} {cB cI cJ cZ cT cR : ClassId} {a0 : Nat} {a1 : Nat} {a10 : Nat} {a11 : Nat} {a12 : Nat} {a13 : Nat} {a14 : Nat} {a15 : Nat} {a16 : Nat} {a17 : Nat} {a18 : Nat} {a2 : Nat} {a3 : Nat} {a4 : Nat} {a5 : Nat} {a6 : Nat} {a7 : Nat} {a8 : Nat} {a9 : Nat} {x0 : Int32} {f1 : Nat → Int32} {f2 : Nat → Int32} {N : Nat} (hx : p.tables.exec = Jvm.exec) (hb : c.code = cX10_row) (hT : ∀ w ∈ uw, w ∈ Ts) (hts : ∀ w ∈ Ts, w.before args s = true) (hown : s.vm.findClass RX10 = some m.cls) (hK : va_K D vwCl [(cB, .byte), (cI, .int), (cJ, .long), (cZ, .boolean), (cT, .object RX7), (cR, .object RX3)] s) (hN : N ≤ 60)
    (kx : ∀ (H : Heap) (locs : List Loc) (ls : Array Slot), va_P D vwCl [(a0, .inr (10, [.int 0, .ref a1, .ref a2, .ref a3, .ref a4, .ref a5, .int 0, .int 0, .int 0, .int 0, .int 0, .long 0, .int 0, .int 0, .int 0, .int (-1), .ref a6, .ref a7, .ref a8, .ref a9, .ref a10, .ref a11, .ref a12, .ref a13, .int 0, .int 0, .ref a14, .ref a15, .int 0, .int 0, .int 0, .ref a16, .ref a17, .int 0, .int 0, .int 0, .int 0, .int 0, .ref a18, .int 0, .int 0, .int 0])), (a1, .inl (cI, 4, .inl f1)), (a2, .inl (cI, 4, .inl f2)), (a3, .inl (cJ, 240, .inr (.inl (fun _ => 0))))] H → va_D AA [(a0, .inr (10, [.int 0, .ref a1, .ref a2, .ref a3, .ref a4, .ref a5, .int 0, .int 0, .int 0, .int 0, .int 0, .long 0, .int 0, .int 0, .int 0, .int (-1), .ref a6, .ref a7, .ref a8, .ref a9, .ref a10, .ref a11, .ref a12, .ref a13, .int 0, .int 0, .ref a14, .ref a15, .int 0, .int 0, .int 0, .ref a16, .ref a17, .int 0, .int 0, .int 0, .int 0, .int 0, .ref a18, .int 0, .int 0, .int 0])), (a1, .inl (cI, 4, .inl f1)), (a2, .inl (cI, 4, .inl f2)), (a3, .inl (cJ, 240, .inr (.inl (fun _ => 0))))] → va_S AA H0 H locs → lv_has ls 5 [(4, .int (nI N)), (0, .ref a0), (1, .int 0), (2, .int x0), (3, .int (nI N))] → W p l e R s m args below meth c H locs cells slots Q (F0 m 82 ls [])) :
    ∀ (j k : Nat), k + j = N → ∀ (H : Heap) (locs : List Loc) (ls : Array Slot), va_P D vwCl [(a0, .inr (10, [.int 0, .ref a1, .ref a2, .ref a3, .ref a4, .ref a5, .int 0, .int 0, .int 0, .int 0, .int 0, .long 0, .int 0, .int 0, .int 0, .int (-1), .ref a6, .ref a7, .ref a8, .ref a9, .ref a10, .ref a11, .ref a12, .ref a13, .int 0, .int 0, .ref a14, .ref a15, .int 0, .int 0, .int 0, .ref a16, .ref a17, .int 0, .int 0, .int 0, .int 0, .int 0, .ref a18, .int 0, .int 0, .int 0])), (a1, .inl (cI, 4, .inl f1)), (a2, .inl (cI, 4, .inl f2)), (a3, .inl (cJ, 240, .inr (.inl (fun _ => 0))))] H → va_D AA [(a0, .inr (10, [.int 0, .ref a1, .ref a2, .ref a3, .ref a4, .ref a5, .int 0, .int 0, .int 0, .int 0, .int 0, .long 0, .int 0, .int 0, .int 0, .int (-1), .ref a6, .ref a7, .ref a8, .ref a9, .ref a10, .ref a11, .ref a12, .ref a13, .int 0, .int 0, .ref a14, .ref a15, .int 0, .int 0, .int 0, .ref a16, .ref a17, .int 0, .int 0, .int 0, .int 0, .int 0, .ref a18, .int 0, .int 0, .int 0])), (a1, .inl (cI, 4, .inl f1)), (a2, .inl (cI, 4, .inl f2)), (a3, .inl (cJ, 240, .inr (.inl (fun _ => 0))))] → va_S AA H0 H locs → lv_has ls 5 [(4, .int (nI k)), (0, .ref a0), (1, .int 0), (2, .int x0), (3, .int (nI N))] → W p l e R s m args below meth c H locs cells slots Q (F0 m 57 ls []) := by
  intro j
  induction j with
  | zero =>
    intro k hk H locs ls hP hD hS hl
    refine lv_iload hx hb dX10_row_57 (lv_at hl 0 rfl) ?_
    refine lv_iload_n hx hb dX10_row_59 rfl (lv_at hl 4 rfl) ?_
    refine lv_icmp_ge (tgt := 82) hx hb dX10_row_60 (by decide) (fun _ => ?_) (fun c9 => absurd (show (nI N) ≤ nI k from nI_le (a := N) (by omega) (by omega)) c9)
    have ek : k = N := by omega
    subst ek
    exact kx H locs ls hP hD hS hl
  | succ j ih =>
    intro k hk H locs ls hP hD hS hl
    refine lv_iload hx hb dX10_row_57 (lv_at hl 0 rfl) ?_
    refine lv_iload_n hx hb dX10_row_59 rfl (lv_at hl 4 rfl) ?_
    refine lv_icmp_ge (tgt := 82) hx hb dX10_row_60 (by decide) (fun c9 => absurd c9 (show ¬ (nI N) ≤ nI k from nI_ge (b := N) (by omega) (by omega))) (fun _ => ?_)
    refine lv_aload_n hx hb dX10_row_63 rfl (lv_at hl 1 rfl) ?_
    refine va_get (D := D) (ci := 10) (v := .ref a3) (C := RX10) (T := TX10) (N := 42) hx hb hts (fun w h => hT w (inX10 w h)) hown hK hP 0 rfl rfl 3 (by decide) (hts _ (hT _ q_f1191)) (fun _ h9 => h9) rfl dX10_row_64 ?_
    refine lv_bipush (v := 60) hx hb dX10_row_67 (by decide) ?_
    refine lv_iload_n hx hb dX10_row_69 rfl (lv_at hl 2 rfl) ?_
    refine lv_imul hx hb dX10_row_70 ?_
    refine pv_i (v := 0) (by decide) ?_
    refine lv_iload hx hb dX10_row_71 (lv_at hl 0 rfl) ?_
    refine lv_iadd hx hb dX10_row_73 ?_
    refine pv_i (v := (nI (0 + k))) (nI_add 0 k) ?_
    refine lv_lconst (v := 0) hx hb dX10_row_74 (by decide) ?_
    refine va_last hx hb hK hP hD hS 3 2 rfl rfl (vp_in_nI (by omega) (by decide)) dX10_row_75 (fun H locs hP hD hS => ?_)
    rw [updL0] at hP hD
    have hP : va_P D vwCl [(a0, .inr (10, [.int 0, .ref a1, .ref a2, .ref a3, .ref a4, .ref a5, .int 0, .int 0, .int 0, .int 0, .int 0, .long 0, .int 0, .int 0, .int 0, .int (-1), .ref a6, .ref a7, .ref a8, .ref a9, .ref a10, .ref a11, .ref a12, .ref a13, .int 0, .int 0, .ref a14, .ref a15, .int 0, .int 0, .int 0, .ref a16, .ref a17, .int 0, .int 0, .int 0, .int 0, .int 0, .ref a18, .int 0, .int 0, .int 0])), (a1, .inl (cI, 4, .inl f1)), (a2, .inl (cI, 4, .inl f2)), (a3, .inl (cJ, 240, .inr (.inl (fun _ => 0))))] H := hP
    have hD : va_D AA [(a0, .inr (10, [.int 0, .ref a1, .ref a2, .ref a3, .ref a4, .ref a5, .int 0, .int 0, .int 0, .int 0, .int 0, .long 0, .int 0, .int 0, .int 0, .int (-1), .ref a6, .ref a7, .ref a8, .ref a9, .ref a10, .ref a11, .ref a12, .ref a13, .int 0, .int 0, .ref a14, .ref a15, .int 0, .int 0, .int 0, .ref a16, .ref a17, .int 0, .int 0, .int 0, .int 0, .int 0, .ref a18, .int 0, .int 0, .int 0])), (a1, .inl (cI, 4, .inl f1)), (a2, .inl (cI, 4, .inl f2)), (a3, .inl (cJ, 240, .inr (.inl (fun _ => 0))))] := hD
    refine lv_iinc (v := (nI (k + 1))) (lv' := [(4, .int (nI (k + 1))), (0, .ref a0), (1, .int 0), (2, .int x0), (3, .int (nI N))]) hx hb dX10_row_76 hl (k := 0) rfl (nI_1 k) (by decide) rfl (fun ls hl => ?_)
    refine lv_goto (tgt := 57) hx hb dX10_row_79 (by decide) ?_
    exact ih (k + 1) (by omega) H locs ls hP hD hS (lv_sub hl [0, 1, 2, 3, 4] rfl)
set_option maxHeartbeats 4000000 in
set_option maxRecDepth 100000 in
theorem kX10_row_2 (l : Launch) (D : va_G) (cB cI cJ cZ cT cR : ClassId) (a0 a1 a2 a3 a4 a5 a6 a7 a8 a9 a10 a11 a12 a13 a14 a15 a16 a17 a18 : Nat) (x0 : Int32) (x1 : Int32) (hy0 : 0 ≤ x0 ∧ x0 ≤ 3) (hy1 : ¬ (60 < x1)) (hy2 : ¬ (x1 < 0)) (sz : Nat) : Met l yX10_row (uc yX10_row cX10_row 5 (some .int)) (rmL 3 0 0) (va_Pc [.ref a0, .int 0, .int x0, .int x1] (MPre D [(cB, .byte), (cI, .int), (cJ, .long), (cZ, .boolean), (cT, .object RX7), (cR, .object RX3)] [(a0, .inr (10, [.int 0, .ref a1, .ref a2, .ref a3, .ref a4, .ref a5, .int 0, .int 0, .int 0, .int 0, .int 0, .long 0, .int 0, .int 0, .int 0, .int (-1), .ref a6, .ref a7, .ref a8, .ref a9, .ref a10, .ref a11, .ref a12, .ref a13, .int 0, .int 0, .ref a14, .ref a15, .int 0, .int 0, .int 0, .ref a16, .ref a17, .int 0, .int 0, .int 0, .int 0, .int 0, .ref a18, .int 0, .int 0, .int 0])), (a1, .inl (cI, 4, .inl (fun _ => (-1)))), (a2, .inl (cI, 4, .inl (fun _ => 0))), (a3, .inl (cJ, 240, .inr (.inl (fun _ => 0))))] sz)) (va_Qi (fun (r : Int32) (_ : (Nat → Int32) × (Nat → Int32)) => r = 0) (MB D [(cB, .byte), (cI, .int), (cJ, .long), (cZ, .boolean), (cT, .object RX7), (cR, .object RX3)] [(a0, .inr (10, [.int 0, .ref a1, .ref a2, .ref a3, .ref a4, .ref a5, .int 0, .int 0, .int 0, .int 0, .int 0, .long 0, .int 0, .int 0, .int 0, .int (-1), .ref a6, .ref a7, .ref a8, .ref a9, .ref a10, .ref a11, .ref a12, .ref a13, .int 0, .int 0, .ref a14, .ref a15, .int 0, .int 0, .int 0, .ref a16, .ref a17, .int 0, .int 0, .int 0, .int 0, .int 0, .ref a18, .int 0, .int 0, .int 0])), (a1, .inl (cI, 4, .inl (fun _ => (-1)))), (a2, .inl (cI, 4, .inl (fun _ => 0))), (a3, .inl (cJ, 240, .inr (.inl (fun _ => 0))))] sz (fun (u : (Nat → Int32) × (Nat → Int32)) => [(a0, .inr (10, [.int 0, .ref a1, .ref a2, .ref a3, .ref a4, .ref a5, .int 0, .int 0, .int 0, .int 0, .int 0, .long 0, .int 0, .int 0, .int 0, .int (-1), .ref a6, .ref a7, .ref a8, .ref a9, .ref a10, .ref a11, .ref a12, .ref a13, .int 0, .int 0, .ref a14, .ref a15, .int 0, .int 0, .int 0, .ref a16, .ref a17, .int 0, .int 0, .int 0, .int 0, .int 0, .ref a18, .int 0, .int 0, .int 0])), (a1, .inl (cI, 4, .inl (u.1))), (a2, .inl (cI, 4, .inl (u.2))), (a3, .inl (cJ, 240, .inr (.inl (fun _ => 0))))])) (va_A [(a0, .inr (10, [.int 0, .ref a1, .ref a2, .ref a3, .ref a4, .ref a5, .int 0, .int 0, .int 0, .int 0, .int 0, .long 0, .int 0, .int 0, .int 0, .int (-1), .ref a6, .ref a7, .ref a8, .ref a9, .ref a10, .ref a11, .ref a12, .ref a13, .int 0, .int 0, .ref a14, .ref a15, .int 0, .int 0, .int 0, .ref a16, .ref a17, .int 0, .int 0, .int 0, .int 0, .int 0, .ref a18, .int 0, .int 0, .int 0])), (a1, .inl (cI, 4, .inl (fun _ => (-1)))), (a2, .inl (cI, 4, .inl (fun _ => 0))), (a3, .inl (cJ, 240, .inr (.inl (fun _ => 0))))] sz)) 0 0 (va_A [(a0, .inr (10, [.int 0, .ref a1, .ref a2, .ref a3, .ref a4, .ref a5, .int 0, .int 0, .int 0, .int 0, .int 0, .long 0, .int 0, .int 0, .int 0, .int (-1), .ref a6, .ref a7, .ref a8, .ref a9, .ref a10, .ref a11, .ref a12, .ref a13, .int 0, .int 0, .ref a14, .ref a15, .int 0, .int 0, .int 0, .ref a16, .ref a17, .int 0, .int 0, .int 0, .int 0, .int 0, .ref a18, .int 0, .int 0, .int 0])), (a1, .inl (cI, 4, .inl (fun _ => (-1)))), (a2, .inl (cI, 4, .inl (fun _ => 0))), (a3, .inl (cJ, 240, .inr (.inl (fun _ => 0))))] sz) := by
  refine pm (by decide) (Nat.le_of_ble_eq_true rfl) ?_
  intro p e s m below meth c ls hx hb hr hml hown hlk hnm hts hv hl
  have hown : s.vm.findClass RX10 = some m.cls := hown
  have hl : lv_has ls 5 [(0, .ref a0), (1, .int 0), (2, .int x0), (3, .int x1)] := hl
  obtain ⟨hsz, hP, hK, hD0, hE⟩ := hv
  subst hsz
  have hD := hD0.self (sz := s.heap.size)
  obtain ⟨AA, hAe⟩ : ∃ AA, AA = va_A [(a0, .inr (10, [.int 0, .ref a1, .ref a2, .ref a3, .ref a4, .ref a5, .int 0, .int 0, .int 0, .int 0, .int 0, .long 0, .int 0, .int 0, .int 0, .int (-1), .ref a6, .ref a7, .ref a8, .ref a9, .ref a10, .ref a11, .ref a12, .ref a13, .int 0, .int 0, .ref a14, .ref a15, .int 0, .int 0, .int 0, .ref a16, .ref a17, .int 0, .int 0, .int 0, .int 0, .int 0, .ref a18, .int 0, .int 0, .int 0])), (a1, .inl (cI, 4, .inl (fun _ => (-1)))), (a2, .inl (cI, 4, .inl (fun _ => 0))), (a3, .inl (cJ, 240, .inr (.inl (fun _ => 0))))] s.heap.size := ⟨_, rfl⟩
  rw [← hAe] at hD
  have hA : ∀ q : Nat, s.heap.size ≤ q → AA q := fun q h => by rw [hAe]; exact Or.inr h
  have hS : va_S AA s.heap s.heap [] := va_S.rf
  obtain ⟨-, hAOT, hAOR, hAOI⟩ := id hE
  refine lv_aload_n hx hb dX10_row_0 rfl (lv_at hl 0 rfl) ?_
  refine lv_iconst (v := 0) hx hb dX10_row_1 (by decide) ?_
  refine va_put (D := D) (ci := 10) (v := .int 0) (ty := .int) (C := RX10) (T := TX10) (N := 42) hx hb hts (fun w h => uc_in w (inX10 w h)) tyX10 tyX10_ok nmX10 hown hK hP hD hS 0 rfl rfl 0 (by decide) (hts _ (uc_in _ q_f1188)) (fun _ h9 => h9) rfl (by decide +kernel) rfl rfl (Nat.le_of_ble_eq_true rfl) dX10_row_2 (fun H locs hP hD hS => ?_)
  have hP : va_P D vwCl [(a0, .inr (10, [.int 0, .ref a1, .ref a2, .ref a3, .ref a4, .ref a5, .int 0, .int 0, .int 0, .int 0, .int 0, .long 0, .int 0, .int 0, .int 0, .int (-1), .ref a6, .ref a7, .ref a8, .ref a9, .ref a10, .ref a11, .ref a12, .ref a13, .int 0, .int 0, .ref a14, .ref a15, .int 0, .int 0, .int 0, .ref a16, .ref a17, .int 0, .int 0, .int 0, .int 0, .int 0, .ref a18, .int 0, .int 0, .int 0])), (a1, .inl (cI, 4, .inl (fun _ => (-1)))), (a2, .inl (cI, 4, .inl (fun _ => 0))), (a3, .inl (cJ, 240, .inr (.inl (fun _ => 0))))] H := hP
  have hD : va_D AA [(a0, .inr (10, [.int 0, .ref a1, .ref a2, .ref a3, .ref a4, .ref a5, .int 0, .int 0, .int 0, .int 0, .int 0, .long 0, .int 0, .int 0, .int 0, .int (-1), .ref a6, .ref a7, .ref a8, .ref a9, .ref a10, .ref a11, .ref a12, .ref a13, .int 0, .int 0, .ref a14, .ref a15, .int 0, .int 0, .int 0, .ref a16, .ref a17, .int 0, .int 0, .int 0, .int 0, .int 0, .ref a18, .int 0, .int 0, .int 0])), (a1, .inl (cI, 4, .inl (fun _ => (-1)))), (a2, .inl (cI, 4, .inl (fun _ => 0))), (a3, .inl (cJ, 240, .inr (.inl (fun _ => 0))))] := hD
  refine lv_iload_n hx hb dX10_row_5 rfl (lv_at hl 1 rfl) ?_
  refine csR (n := 1) (As := [.int 0]) (rest := []) ⟨hx, hb, hml, hown, hts⟩ uc_in (kX10_isSlot_2 l D cB cI cJ cZ cT cR ) q_m1320 q_s1321 q_i11 q_c1322 (by decide +kernel) ⟨(Nat.le_of_ble_eq_true rfl), (Nat.le_of_ble_eq_true rfl)⟩ ⟨(Nat.le_of_ble_eq_true rfl), (Nat.le_of_ble_eq_true rfl)⟩ hK (hP.sub (ws' := []) [] rfl) rfl hl.1 rfl (Nat.le_of_ble_eq_true rfl) dX10_row_6 ?_
  refine lv_if_eq (tgt := 30) hx hb dX10_row_9 (by decide) (fun c9 => absurd c9 (by decide)) (fun _ => ?_)
  refine lv_iload_n hx hb dX10_row_12 rfl (lv_at hl 2 rfl) ?_
  refine lv_i2l (v := x0.toInt64) hx hb dX10_row_13 rfl ?_
  refine lv_lconst (v := 0) hx hb dX10_row_14 (by decide) ?_
  refine lv_ldc2 (v := 3) hx hb hown (hts _ (uc_in _ q_k1323)) dX10_row_15 ?_
  refine csR (n := 3) (As := [.long x0.toInt64, .long 0, .long 3]) (rest := []) ⟨hx, hb, hml, hown, hts⟩ uc_in (k_in l D [(cB, .byte), (cI, .int), (cJ, .long), (cZ, .boolean), (cT, .object RX7), (cR, .object RX3)] x0.toInt64 0 3 1 (if_pos ((in64 (x := x0) (lo := 0) (hi := 3) (by decide) (by decide)).mpr hy0)).symm) q_m1324 q_s1325 q_i11 q_c1326 (by decide +kernel) ⟨(Nat.le_of_ble_eq_true rfl), (Nat.le_of_ble_eq_true rfl)⟩ ⟨(Nat.le_of_ble_eq_true rfl), (Nat.le_of_ble_eq_true rfl)⟩ hK (hP.sub (ws' := []) [] rfl) rfl hl.1 rfl (Nat.le_of_ble_eq_true rfl) dX10_row_18 ?_
  refine lv_if_eq (tgt := 30) hx hb dX10_row_21 (by decide) (fun c9 => absurd c9 (by decide)) (fun _ => ?_)
  refine lv_iload_n hx hb dX10_row_24 rfl (lv_at hl 3 rfl) ?_
  refine lv_bipush (v := 60) hx hb dX10_row_25 (by decide) ?_
  refine lv_icmp_le (tgt := 33) hx hb dX10_row_27 (by decide) (fun _ => ?_) (fun c9 => absurd (Int32.not_lt.mp hy1) c9)
  refine lv_iload_n hx hb dX10_row_33 rfl (lv_at hl 3 rfl) ?_
  refine lv_if_ge (tgt := 40) hx hb dX10_row_34 (by decide) (fun _ => ?_) (fun c9 => absurd (Int32.not_lt.mp hy2) c9)
  refine lv_aload_n hx hb dX10_row_40 rfl (lv_at hl 0 rfl) ?_
  refine va_get (D := D) (ci := 10) (v := .ref a1) (C := RX10) (T := TX10) (N := 42) hx hb hts (fun w h => uc_in w (inX10 w h)) hown hK hP 0 rfl rfl 1 (by decide) (hts _ (uc_in _ q_f1189)) (fun _ h9 => h9) rfl dX10_row_41 ?_
  refine lv_iload_n hx hb dX10_row_44 rfl (lv_at hl 1 rfl) ?_
  refine lv_iload_n hx hb dX10_row_45 rfl (lv_at hl 2 rfl) ?_
  refine va_iast hx hb hK hP hD hS 1 1 rfl rfl (vp_in_iff.mpr ⟨by decide, by decide⟩) dX10_row_46 (fun H locs hP hD hS => ?_)
  obtain ⟨f1, ef1⟩ : ∃ f9, f9 = upd (fun _ => (-1)) 0.toNatClampNeg x0 := ⟨_, rfl⟩
  rw [← ef1] at hP hD
  have hP : va_P D vwCl [(a0, .inr (10, [.int 0, .ref a1, .ref a2, .ref a3, .ref a4, .ref a5, .int 0, .int 0, .int 0, .int 0, .int 0, .long 0, .int 0, .int 0, .int 0, .int (-1), .ref a6, .ref a7, .ref a8, .ref a9, .ref a10, .ref a11, .ref a12, .ref a13, .int 0, .int 0, .ref a14, .ref a15, .int 0, .int 0, .int 0, .ref a16, .ref a17, .int 0, .int 0, .int 0, .int 0, .int 0, .ref a18, .int 0, .int 0, .int 0])), (a1, .inl (cI, 4, .inl f1)), (a2, .inl (cI, 4, .inl (fun _ => 0))), (a3, .inl (cJ, 240, .inr (.inl (fun _ => 0))))] H := hP
  have hD : va_D AA [(a0, .inr (10, [.int 0, .ref a1, .ref a2, .ref a3, .ref a4, .ref a5, .int 0, .int 0, .int 0, .int 0, .int 0, .long 0, .int 0, .int 0, .int 0, .int (-1), .ref a6, .ref a7, .ref a8, .ref a9, .ref a10, .ref a11, .ref a12, .ref a13, .int 0, .int 0, .ref a14, .ref a15, .int 0, .int 0, .int 0, .ref a16, .ref a17, .int 0, .int 0, .int 0, .int 0, .int 0, .ref a18, .int 0, .int 0, .int 0])), (a1, .inl (cI, 4, .inl f1)), (a2, .inl (cI, 4, .inl (fun _ => 0))), (a3, .inl (cJ, 240, .inr (.inl (fun _ => 0))))] := hD
  refine lv_aload_n hx hb dX10_row_47 rfl (lv_at hl 0 rfl) ?_
  refine va_get (D := D) (ci := 10) (v := .ref a2) (C := RX10) (T := TX10) (N := 42) hx hb hts (fun w h => uc_in w (inX10 w h)) hown hK hP 0 rfl rfl 2 (by decide) (hts _ (uc_in _ q_f1190)) (fun _ h9 => h9) rfl dX10_row_48 ?_
  refine lv_iload_n hx hb dX10_row_51 rfl (lv_at hl 1 rfl) ?_
  refine lv_iload_n hx hb dX10_row_52 rfl (lv_at hl 3 rfl) ?_
  refine va_iast hx hb hK hP hD hS 2 1 rfl rfl (vp_in_iff.mpr ⟨by decide, by decide⟩) dX10_row_53 (fun H locs hP hD hS => ?_)
  obtain ⟨f2, ef2⟩ : ∃ f9, f9 = upd (fun _ => 0) 0.toNatClampNeg x1 := ⟨_, rfl⟩
  rw [← ef2] at hP hD
  have hP : va_P D vwCl [(a0, .inr (10, [.int 0, .ref a1, .ref a2, .ref a3, .ref a4, .ref a5, .int 0, .int 0, .int 0, .int 0, .int 0, .long 0, .int 0, .int 0, .int 0, .int (-1), .ref a6, .ref a7, .ref a8, .ref a9, .ref a10, .ref a11, .ref a12, .ref a13, .int 0, .int 0, .ref a14, .ref a15, .int 0, .int 0, .int 0, .ref a16, .ref a17, .int 0, .int 0, .int 0, .int 0, .int 0, .ref a18, .int 0, .int 0, .int 0])), (a1, .inl (cI, 4, .inl f1)), (a2, .inl (cI, 4, .inl f2)), (a3, .inl (cJ, 240, .inr (.inl (fun _ => 0))))] H := hP
  have hD : va_D AA [(a0, .inr (10, [.int 0, .ref a1, .ref a2, .ref a3, .ref a4, .ref a5, .int 0, .int 0, .int 0, .int 0, .int 0, .long 0, .int 0, .int 0, .int 0, .int (-1), .ref a6, .ref a7, .ref a8, .ref a9, .ref a10, .ref a11, .ref a12, .ref a13, .int 0, .int 0, .ref a14, .ref a15, .int 0, .int 0, .int 0, .ref a16, .ref a17, .int 0, .int 0, .int 0, .int 0, .int 0, .ref a18, .int 0, .int 0, .int 0])), (a1, .inl (cI, 4, .inl f1)), (a2, .inl (cI, 4, .inl f2)), (a3, .inl (cJ, 240, .inr (.inl (fun _ => 0))))] := hD
  refine lv_iconst (v := 0) hx hb dX10_row_54 (by decide) ?_
  refine lv_istore (lv' := [(4, .int 0), (0, .ref a0), (1, .int 0), (2, .int x0), (3, .int x1)]) hx hb dX10_row_55 hl (by decide) rfl (fun ls hl => ?_)
  obtain ⟨N, hN, hNe⟩ := nI_of2 (M := 60) (n := 60) (by decide) hy2 (Int32.not_lt.mp hy1)
  subst hNe
  refine lp_X10_row_433 hx hb uc_in hts hown hK hN (fun H locs ls hP hD hS hl => ?_) N 0 (by omega) H locs ls hP hD hS hl
  have hP : va_P D vwCl [(a0, .inr (10, [.int 0, .ref a1, .ref a2, .ref a3, .ref a4, .ref a5, .int 0, .int 0, .int 0, .int 0, .int 0, .long 0, .int 0, .int 0, .int 0, .int (-1), .ref a6, .ref a7, .ref a8, .ref a9, .ref a10, .ref a11, .ref a12, .ref a13, .int 0, .int 0, .ref a14, .ref a15, .int 0, .int 0, .int 0, .ref a16, .ref a17, .int 0, .int 0, .int 0, .int 0, .int 0, .ref a18, .int 0, .int 0, .int 0])), (a1, .inl (cI, 4, .inl f1)), (a2, .inl (cI, 4, .inl f2)), (a3, .inl (cJ, 240, .inr (.inl (fun _ => 0))))] H := hP
  have hD : va_D AA [(a0, .inr (10, [.int 0, .ref a1, .ref a2, .ref a3, .ref a4, .ref a5, .int 0, .int 0, .int 0, .int 0, .int 0, .long 0, .int 0, .int 0, .int 0, .int (-1), .ref a6, .ref a7, .ref a8, .ref a9, .ref a10, .ref a11, .ref a12, .ref a13, .int 0, .int 0, .ref a14, .ref a15, .int 0, .int 0, .int 0, .ref a16, .ref a17, .int 0, .int 0, .int 0, .int 0, .int 0, .ref a18, .int 0, .int 0, .int 0])), (a1, .inl (cI, 4, .inl f1)), (a2, .inl (cI, 4, .inl f2)), (a3, .inl (cJ, 240, .inr (.inl (fun _ => 0))))] := hD
  refine lv_iconst (v := 0) hx hb dX10_row_82 (by decide) ?_
  subst hAe
  have hP9 := hP.sub (ws' := [(a0, .inr (10, [.int 0, .ref a1, .ref a2, .ref a3, .ref a4, .ref a5, .int 0, .int 0, .int 0, .int 0, .int 0, .long 0, .int 0, .int 0, .int 0, .int (-1), .ref a6, .ref a7, .ref a8, .ref a9, .ref a10, .ref a11, .ref a12, .ref a13, .int 0, .int 0, .ref a14, .ref a15, .int 0, .int 0, .int 0, .ref a16, .ref a17, .int 0, .int 0, .int 0, .int 0, .int 0, .ref a18, .int 0, .int 0, .int 0])), (a1, .inl (cI, 4, .inl f1)), (a2, .inl (cI, 4, .inl f2)), (a3, .inl (cJ, 240, .inr (.inl (fun _ => 0))))]) [0, 1, 2, 3] rfl
  have hD9 := hD.sub (ws' := [(a0, .inr (10, [.int 0, .ref a1, .ref a2, .ref a3, .ref a4, .ref a5, .int 0, .int 0, .int 0, .int 0, .int 0, .long 0, .int 0, .int 0, .int 0, .int (-1), .ref a6, .ref a7, .ref a8, .ref a9, .ref a10, .ref a11, .ref a12, .ref a13, .int 0, .int 0, .ref a14, .ref a15, .int 0, .int 0, .int 0, .ref a16, .ref a17, .int 0, .int 0, .int 0, .int 0, .int 0, .ref a18, .int 0, .int 0, .int 0])), (a1, .inl (cI, 4, .inl f1)), (a2, .inl (cI, 4, .inl f2)), (a3, .inl (cJ, 240, .inr (.inl (fun _ => 0))))]) [0, 1, 2, 3] rfl rfl
  exact W.iret hx hb hr (fun t ht hW => ⟨⟨0, (f1, f2), rfl, rfl, by rw [ht]; exact hP9, va_K.moved hW.alike hK, hD9⟩, hS.F ht⟩) hS.2.2 dX10_row_83
set_option maxHeartbeats 4000000 in
set_option maxRecDepth 100000 in
theorem kX9_isSlot_3 (l : Launch) (D : va_G) (cB cI cJ cZ cT cR : ClassId) : Met l yX9_isSlot (uc yX9_isSlot cX9_isSlot 1 (some .boolean)) (rmL 2 0 0) (va_Pc [.int 1] (RPre D [(cB, .byte), (cI, .int), (cJ, .long), (cZ, .boolean), (cT, .object RX7), (cR, .object RX3)] [])) (QcRead 1) 0 0 (fun _ => False) := by
  refine pm (by decide) (Nat.le_of_ble_eq_true rfl) ?_
  intro p e s m below meth c ls hx hb hr hml hown hlk hnm hts hv hl
  have hown : s.vm.findClass RX9 = some m.cls := hown
  have hl : lv_has ls 1 [(0, .int 1)] := hl
  obtain ⟨hP, hK⟩ := hv
  refine lv_iload_n hx hb dX9_isSlot_0 rfl (lv_at hl 0 rfl) ?_
  refine lv_iconst (v := 0) hx hb dX9_isSlot_1 (by decide) ?_
  refine lv_iconst (v := 3) hx hb dX9_isSlot_2 (by decide) ?_
  refine csR (n := 3) (As := [.int 1, .int 0, .int 3]) (rest := []) ⟨hx, hb, hml, hown, hts⟩ uc_in (k_isWithin l D [(cB, .byte), (cI, .int), (cJ, .long), (cZ, .boolean), (cT, .object RX7), (cR, .object RX3)] 1 0 3 1 (if_pos (by decide)).symm) q_m651 q_s652 q_i1 q_c653 (by decide +kernel) ⟨(Nat.le_of_ble_eq_true rfl), (Nat.le_of_ble_eq_true rfl)⟩ ⟨(Nat.le_of_ble_eq_true rfl), (Nat.le_of_ble_eq_true rfl)⟩ hK (hP.sub (ws' := []) [] rfl) rfl hl.1 rfl (Nat.le_of_ble_eq_true rfl) dX9_isSlot_3 ?_
  exact W.zret hx hb hr rfl (fun t ht _ => ⟨rfl, ht⟩) (fun _ h => by cases h) dX9_isSlot_6
set_option maxHeartbeats 4000000 in
set_option maxRecDepth 100000 in
theorem kX9_row_3 (l : Launch) (D : va_G) (cB cI cJ cZ cT cR : ClassId) (a0 a1 a2 a3 a4 a5 a6 a7 a8 a9 a10 a11 a12 a13 a14 a15 a16 : Nat) (x0 : Int32) (x1 : Int32) (hy0 : 0 ≤ x0 ∧ x0 ≤ 3) (hy1 : ¬ (60 < x1)) (hy2 : ¬ (x1 < 0)) (sz : Nat) : Met l yX9_row (uc yX9_row cX9_row 4 (some .int)) (rmL 3 0 0) (va_Pc [.ref a0, .int 1, .int x0, .int x1] (MPre D [(cB, .byte), (cI, .int), (cJ, .long), (cZ, .boolean), (cT, .object RX7), (cR, .object RX3)] [(a0, .inr (9, [.ref a4, .ref a5, .ref a6, .ref a7, .int 0, .ref a8, .ref a1, .ref a9, .ref a10, .ref a11, .ref a12, .ref a13])), (a1, .inl (cR, 4, .inr (.inr (.inr (.inr (va_up (va_up (va_up (va_up (fun _ => none) 0 (some a14)) 1 (some a2)) 2 (some a15)) 3 (some a16))))))), (a2, .inr (3, [.int (-1), .int 0, .ref a3])), (a3, .inl (cJ, 60, .inr (.inl (fun _ => 0))))] sz)) (va_Qi (fun (r : Int32) (_ : Unit) => r = 0) (MB D [(cB, .byte), (cI, .int), (cJ, .long), (cZ, .boolean), (cT, .object RX7), (cR, .object RX3)] [(a0, .inr (9, [.ref a4, .ref a5, .ref a6, .ref a7, .int 0, .ref a8, .ref a1, .ref a9, .ref a10, .ref a11, .ref a12, .ref a13])), (a1, .inl (cR, 4, .inr (.inr (.inr (.inr (va_up (va_up (va_up (va_up (fun _ => none) 0 (some a14)) 1 (some a2)) 2 (some a15)) 3 (some a16))))))), (a2, .inr (3, [.int (-1), .int 0, .ref a3])), (a3, .inl (cJ, 60, .inr (.inl (fun _ => 0))))] sz (fun (u : Unit) => [(a0, .inr (9, [.ref a4, .ref a5, .ref a6, .ref a7, .int 0, .ref a8, .ref a1, .ref a9, .ref a10, .ref a11, .ref a12, .ref a13])), (a1, .inl (cR, 4, .inr (.inr (.inr (.inr (va_up (va_up (va_up (va_up (fun _ => none) 0 (some a14)) 1 (some a2)) 2 (some a15)) 3 (some a16))))))), (a2, .inr (3, [.int x1, .int x0, .ref a3])), (a3, .inl (cJ, 60, .inr (.inl (fun _ => 0))))])) (va_A [(a0, .inr (9, [.ref a4, .ref a5, .ref a6, .ref a7, .int 0, .ref a8, .ref a1, .ref a9, .ref a10, .ref a11, .ref a12, .ref a13])), (a1, .inl (cR, 4, .inr (.inr (.inr (.inr (va_up (va_up (va_up (va_up (fun _ => none) 0 (some a14)) 1 (some a2)) 2 (some a15)) 3 (some a16))))))), (a2, .inr (3, [.int (-1), .int 0, .ref a3])), (a3, .inl (cJ, 60, .inr (.inl (fun _ => 0))))] sz)) 0 0 (va_A [(a0, .inr (9, [.ref a4, .ref a5, .ref a6, .ref a7, .int 0, .ref a8, .ref a1, .ref a9, .ref a10, .ref a11, .ref a12, .ref a13])), (a1, .inl (cR, 4, .inr (.inr (.inr (.inr (va_up (va_up (va_up (va_up (fun _ => none) 0 (some a14)) 1 (some a2)) 2 (some a15)) 3 (some a16))))))), (a2, .inr (3, [.int (-1), .int 0, .ref a3])), (a3, .inl (cJ, 60, .inr (.inl (fun _ => 0))))] sz) := by
  refine pm (by decide) (Nat.le_of_ble_eq_true rfl) ?_
  intro p e s m below meth c ls hx hb hr hml hown hlk hnm hts hv hl
  have hown : s.vm.findClass RX9 = some m.cls := hown
  have hl : lv_has ls 4 [(0, .ref a0), (1, .int 1), (2, .int x0), (3, .int x1)] := hl
  obtain ⟨hsz, hP, hK, hD0, hE⟩ := hv
  subst hsz
  have hD := hD0.self (sz := s.heap.size)
  obtain ⟨AA, hAe⟩ : ∃ AA, AA = va_A [(a0, .inr (9, [.ref a4, .ref a5, .ref a6, .ref a7, .int 0, .ref a8, .ref a1, .ref a9, .ref a10, .ref a11, .ref a12, .ref a13])), (a1, .inl (cR, 4, .inr (.inr (.inr (.inr (va_up (va_up (va_up (va_up (fun _ => none) 0 (some a14)) 1 (some a2)) 2 (some a15)) 3 (some a16))))))), (a2, .inr (3, [.int (-1), .int 0, .ref a3])), (a3, .inl (cJ, 60, .inr (.inl (fun _ => 0))))] s.heap.size := ⟨_, rfl⟩
  rw [← hAe] at hD
  have hA : ∀ q : Nat, s.heap.size ≤ q → AA q := fun q h => by rw [hAe]; exact Or.inr h
  have hS : va_S AA s.heap s.heap [] := va_S.rf
  obtain ⟨-, hAOT, hAOR, hAOI⟩ := id hE
  refine lv_iload_n hx hb dX9_row_0 rfl (lv_at hl 1 rfl) ?_
  refine csR (n := 1) (As := [.int 1]) (rest := []) ⟨hx, hb, hml, hown, hts⟩ uc_in (kX9_isSlot_3 l D cB cI cJ cZ cT cR ) q_m911 q_s912 q_i1 q_c913 (by decide +kernel) ⟨(Nat.le_of_ble_eq_true rfl), (Nat.le_of_ble_eq_true rfl)⟩ ⟨(Nat.le_of_ble_eq_true rfl), (Nat.le_of_ble_eq_true rfl)⟩ hK (hP.sub (ws' := []) [] rfl) rfl hl.1 rfl (Nat.le_of_ble_eq_true rfl) dX9_row_1 ?_
  refine lv_if_eq (tgt := 22) hx hb dX9_row_4 (by decide) (fun c9 => absurd c9 (by decide)) (fun _ => ?_)
  refine lv_iload_n hx hb dX9_row_7 rfl (lv_at hl 2 rfl) ?_
  refine lv_iconst (v := 0) hx hb dX9_row_8 (by decide) ?_
  refine lv_iconst (v := 3) hx hb dX9_row_9 (by decide) ?_
  refine csR (n := 3) (As := [.int x0, .int 0, .int 3]) (rest := []) ⟨hx, hb, hml, hown, hts⟩ uc_in (k_isWithin l D [(cB, .byte), (cI, .int), (cJ, .long), (cZ, .boolean), (cT, .object RX7), (cR, .object RX3)] x0 0 3 1 (if_pos hy0).symm) q_m651 q_s652 q_i1 q_c653 (by decide +kernel) ⟨(Nat.le_of_ble_eq_true rfl), (Nat.le_of_ble_eq_true rfl)⟩ ⟨(Nat.le_of_ble_eq_true rfl), (Nat.le_of_ble_eq_true rfl)⟩ hK (hP.sub (ws' := []) [] rfl) rfl hl.1 rfl (Nat.le_of_ble_eq_true rfl) dX9_row_10 ?_
  refine lv_if_eq (tgt := 22) hx hb dX9_row_13 (by decide) (fun c9 => absurd c9 (by decide)) (fun _ => ?_)
  refine lv_iload_n hx hb dX9_row_16 rfl (lv_at hl 3 rfl) ?_
  refine lv_bipush (v := 60) hx hb dX9_row_17 (by decide) ?_
  refine lv_icmp_le (tgt := 25) hx hb dX9_row_19 (by decide) (fun _ => ?_) (fun c9 => absurd (Int32.not_lt.mp hy1) c9)
  refine lv_iload_n hx hb dX9_row_25 rfl (lv_at hl 3 rfl) ?_
  refine lv_if_ge (tgt := 32) hx hb dX9_row_26 (by decide) (fun _ => ?_) (fun c9 => absurd (Int32.not_lt.mp hy2) c9)
  refine lv_aload_n hx hb dX9_row_32 rfl (lv_at hl 0 rfl) ?_
  refine va_get (D := D) (ci := 9) (v := .ref a1) (C := RX9) (T := TX9) (N := 12) hx hb hts (fun w h => uc_in w (inX9 w h)) hown hK hP 0 rfl rfl 6 (by decide) (hts _ (uc_in _ q_f389)) (fun _ h9 => h9) rfl dX9_row_33 ?_
  refine lv_iload_n hx hb dX9_row_36 rfl (lv_at hl 1 rfl) ?_
  refine va_aldq hx hb hK hP 1 5 rfl rfl (vp_in_iff.mpr ⟨by decide, by decide⟩) dX9_row_37 ?_
  refine pv_v (v := .ref a2) rfl ?_
  refine lv_iload_n hx hb dX9_row_38 rfl (lv_at hl 2 rfl) ?_
  refine lv_iload_n hx hb dX9_row_39 rfl (lv_at hl 3 rfl) ?_
  refine cvV (n := 2) (As := [.int x0, .int x1]) (rest := []) (wr := [(a0, .inr (9, [.ref a4, .ref a5, .ref a6, .ref a7, .int 0, .ref a8, .ref a1, .ref a9, .ref a10, .ref a11, .ref a12, .ref a13])), (a1, .inl (cR, 4, .inr (.inr (.inr (.inr (va_up (va_up (va_up (va_up (fun _ => none) 0 (some a14)) 1 (some a2)) 2 (some a15)) 3 (some a16)))))))]) ⟨hx, hb, hml, hown, hts⟩ uc_in (kX3_begin_0 l D cB cI cJ cZ cT cR a2 a3 x0 x1 H.size) q_m1162 q_n1163 q_e1164 q_i5 q_c1165 (by decide +kernel) ⟨(Nat.le_of_ble_eq_true rfl), (Nat.le_of_ble_eq_true rfl)⟩ ⟨(Nat.le_of_ble_eq_true rfl), (Nat.le_of_ble_eq_true rfl)⟩ hE hK hP hD hS hA [2, 3] [0, 1] rfl rfl rfl rfl (by decide) 3 0 rfl rfl rfl hl.1 rfl (Nat.le_of_ble_eq_true rfl) dX9_row_40 (fun u H locs hpo hP hD hS => ?_)
  have hP : va_P D vwCl [(a0, .inr (9, [.ref a4, .ref a5, .ref a6, .ref a7, .int 0, .ref a8, .ref a1, .ref a9, .ref a10, .ref a11, .ref a12, .ref a13])), (a1, .inl (cR, 4, .inr (.inr (.inr (.inr (va_up (va_up (va_up (va_up (fun _ => none) 0 (some a14)) 1 (some a2)) 2 (some a15)) 3 (some a16))))))), (a2, .inr (3, [.int x1, .int x0, .ref a3])), (a3, .inl (cJ, 60, .inr (.inl (fun _ => 0))))] H := hP
  have hD : va_D AA [(a0, .inr (9, [.ref a4, .ref a5, .ref a6, .ref a7, .int 0, .ref a8, .ref a1, .ref a9, .ref a10, .ref a11, .ref a12, .ref a13])), (a1, .inl (cR, 4, .inr (.inr (.inr (.inr (va_up (va_up (va_up (va_up (fun _ => none) 0 (some a14)) 1 (some a2)) 2 (some a15)) 3 (some a16))))))), (a2, .inr (3, [.int x1, .int x0, .ref a3])), (a3, .inl (cJ, 60, .inr (.inl (fun _ => 0))))] := hD
  refine W.cs (cells' := 0) (slots' := 0) rfl rfl ?_
  refine lv_iconst (v := 0) hx hb dX9_row_43 (by decide) ?_
  subst hAe
  have hP9 := hP.sub (ws' := [(a0, .inr (9, [.ref a4, .ref a5, .ref a6, .ref a7, .int 0, .ref a8, .ref a1, .ref a9, .ref a10, .ref a11, .ref a12, .ref a13])), (a1, .inl (cR, 4, .inr (.inr (.inr (.inr (va_up (va_up (va_up (va_up (fun _ => none) 0 (some a14)) 1 (some a2)) 2 (some a15)) 3 (some a16))))))), (a2, .inr (3, [.int x1, .int x0, .ref a3])), (a3, .inl (cJ, 60, .inr (.inl (fun _ => 0))))]) [0, 1, 2, 3] rfl
  have hD9 := hD.sub (ws' := [(a0, .inr (9, [.ref a4, .ref a5, .ref a6, .ref a7, .int 0, .ref a8, .ref a1, .ref a9, .ref a10, .ref a11, .ref a12, .ref a13])), (a1, .inl (cR, 4, .inr (.inr (.inr (.inr (va_up (va_up (va_up (va_up (fun _ => none) 0 (some a14)) 1 (some a2)) 2 (some a15)) 3 (some a16))))))), (a2, .inr (3, [.int x1, .int x0, .ref a3])), (a3, .inl (cJ, 60, .inr (.inl (fun _ => 0))))]) [0, 1, 2, 3] rfl rfl
  exact W.iret hx hb hr (fun t ht hW => ⟨⟨0, (), rfl, rfl, by rw [ht]; exact hP9, va_K.moved hW.alike hK, hD9⟩, hS.F ht⟩) hS.2.2 dX9_row_44
set_option maxHeartbeats 4000000 in
set_option maxRecDepth 100000 in
theorem kX10_isSlot_3 (l : Launch) (D : va_G) (cB cI cJ cZ cT cR : ClassId) : Met l yX10_isSlot (uc yX10_isSlot cX10_isSlot 1 (some .boolean)) (rmL 2 0 0) (va_Pc [.int 1] (RPre D [(cB, .byte), (cI, .int), (cJ, .long), (cZ, .boolean), (cT, .object RX7), (cR, .object RX3)] [])) (QcRead 1) 0 0 (fun _ => False) := by
  refine pm (by decide) (Nat.le_of_ble_eq_true rfl) ?_
  intro p e s m below meth c ls hx hb hr hml hown hlk hnm hts hv hl
  have hown : s.vm.findClass RX10 = some m.cls := hown
  have hl : lv_has ls 1 [(0, .int 1)] := hl
  obtain ⟨hP, hK⟩ := hv
  refine lv_iload_n hx hb dX10_isSlot_0 rfl (lv_at hl 0 rfl) ?_
  refine lv_i2l (v := 1) hx hb dX10_isSlot_1 (by decide) ?_
  refine lv_lconst (v := 0) hx hb dX10_isSlot_2 (by decide) ?_
  refine lv_ldc2 (v := 3) hx hb hown (hts _ (uc_in _ q_k1323)) dX10_isSlot_3 ?_
  refine csR (n := 3) (As := [.long 1, .long 0, .long 3]) (rest := []) ⟨hx, hb, hml, hown, hts⟩ uc_in (k_in l D [(cB, .byte), (cI, .int), (cJ, .long), (cZ, .boolean), (cT, .object RX7), (cR, .object RX3)] 1 0 3 1 (if_pos (by decide)).symm) q_m1324 q_s1325 q_i11 q_c1326 (by decide +kernel) ⟨(Nat.le_of_ble_eq_true rfl), (Nat.le_of_ble_eq_true rfl)⟩ ⟨(Nat.le_of_ble_eq_true rfl), (Nat.le_of_ble_eq_true rfl)⟩ hK (hP.sub (ws' := []) [] rfl) rfl hl.1 rfl (Nat.le_of_ble_eq_true rfl) dX10_isSlot_6 ?_
  exact W.zret hx hb hr rfl (fun t ht _ => ⟨rfl, ht⟩) (fun _ h => by cases h) dX10_isSlot_9
set_option maxHeartbeats 4000000 in
set_option maxRecDepth 100000 in
theorem lp_X10_row_438 {p : Program} {l : Launch} {e : Env} {R : Room} {s : State} {m : MethodId} {args : Array Value} {below : List Frame} {meth : Method} {c : Code} {cells slots : Nat} {Q : State → Prop} {D : va_G} {AA : Nat → Prop} {H0 : Heap} {Ts : List Cond} {cB cI cJ cZ cT cR : ClassId} {a0 : Nat} {a1 : Nat} {a10 : Nat} {a11 : Nat} {a12 : Nat} {a13 : Nat} {a14 : Nat} {a15 : Nat} {a16 : Nat} {a17 : Nat} {a18 : Nat} {a2 : Nat} {a3 : Nat} {a4 : Nat} {a5 : Nat} {a6 : Nat} {a7 : Nat} {a8 : Nat} {a9 : Nat} {x0 : Int32} {f1 : Nat → Int32} {f2 : Nat → Int32} {N : Nat} (hx : p.tables.exec = Jvm.exec) (hb : c.code = cX10_row) (hT : ∀ w ∈ uw, w ∈ Ts) (hts : ∀ w ∈ Ts, w.before args s = true) (hown : s.vm.findClass RX10 = some m.cls) (hK : va_K D vwCl [(cB, .byte), (cI, .int), (cJ, .long), (cZ, .boolean), (cT, .object RX7), (cR, .object RX3)] s) (hN : N ≤ 60)
    (kx : ∀ (H : Heap) (locs : List Loc) (ls : Array Slot), va_P D vwCl [(a0, .inr (10, [.int 0, .ref a1, .ref a2, .ref a3, .ref a4, .ref a5, .int 0, .int 0, .int 0, .int 0, .int 0, .long 0, .int 0, .int 0, .int 0, .int (-1), .ref a6, .ref a7, .ref a8, .ref a9, .ref a10, .ref a11, .ref a12, .ref a13, .int 0, .int 0, .ref a14, .ref a15, .int 0, .int 0, .int 0, .ref a16, .ref a17, .int 0, .int 0, .int 0, .int 0, .int 0, .ref a18, .int 0, .int 0, .int 0])), (a1, .inl (cI, 4, .inl f1)), (a2, .inl (cI, 4, .inl f2)), (a3, .inl (cJ, 240, .inr (.inl (fun _ => 0))))] H → va_D AA [(a0, .inr (10, [.int 0, .ref a1, .ref a2, .ref a3, .ref a4, .ref a5, .int 0, .int 0, .int 0, .int 0, .int 0, .long 0, .int 0, .int 0, .int 0, .int (-1), .ref a6, .ref a7, .ref a8, .ref a9, .ref a10, .ref a11, .ref a12, .ref a13, .int 0, .int 0, .ref a14, .ref a15, .int 0, .int 0, .int 0, .ref a16, .ref a17, .int 0, .int 0, .int 0, .int 0, .int 0, .ref a18, .int 0, .int 0, .int 0])), (a1, .inl (cI, 4, .inl f1)), (a2, .inl (cI, 4, .inl f2)), (a3, .inl (cJ, 240, .inr (.inl (fun _ => 0))))] → va_S AA H0 H locs → lv_has ls 5 [(4, .int (nI N)), (0, .ref a0), (1, .int 1), (2, .int x0), (3, .int (nI N))] → W p l e R s m args below meth c H locs cells slots Q (F0 m 82 ls [])) :
    ∀ (j k : Nat), k + j = N → ∀ (H : Heap) (locs : List Loc) (ls : Array Slot), va_P D vwCl [(a0, .inr (10, [.int 0, .ref a1, .ref a2, .ref a3, .ref a4, .ref a5, .int 0, .int 0, .int 0, .int 0, .int 0, .long 0, .int 0, .int 0, .int 0, .int (-1), .ref a6, .ref a7, .ref a8, .ref a9, .ref a10, .ref a11, .ref a12, .ref a13, .int 0, .int 0, .ref a14, .ref a15, .int 0, .int 0, .int 0, .ref a16, .ref a17, .int 0, .int 0, .int 0, .int 0, .int 0, .ref a18, .int 0, .int 0, .int 0])), (a1, .inl (cI, 4, .inl f1)), (a2, .inl (cI, 4, .inl f2)), (a3, .inl (cJ, 240, .inr (.inl (fun _ => 0))))] H → va_D AA [(a0, .inr (10, [.int 0, .ref a1, .ref a2, .ref a3, .ref a4, .ref a5, .int 0, .int 0, .int 0, .int 0, .int 0, .long 0, .int 0, .int 0, .int 0, .int (-1), .ref a6, .ref a7, .ref a8, .ref a9, .ref a10, .ref a11, .ref a12, .ref a13, .int 0, .int 0, .ref a14, .ref a15, .int 0, .int 0, .int 0, .ref a16, .ref a17, .int 0, .int 0, .int 0, .int 0, .int 0, .ref a18, .int 0, .int 0, .int 0])), (a1, .inl (cI, 4, .inl f1)), (a2, .inl (cI, 4, .inl f2)), (a3, .inl (cJ, 240, .inr (.inl (fun _ => 0))))] → va_S AA H0 H locs → lv_has ls 5 [(4, .int (nI k)), (0, .ref a0), (1, .int 1), (2, .int x0), (3, .int (nI N))] → W p l e R s m args below meth c H locs cells slots Q (F0 m 57 ls []) := by
  intro j
  induction j with
  | zero =>
    intro k hk H locs ls hP hD hS hl
    refine lv_iload hx hb dX10_row_57 (lv_at hl 0 rfl) ?_
    refine lv_iload_n hx hb dX10_row_59 rfl (lv_at hl 4 rfl) ?_
    refine lv_icmp_ge (tgt := 82) hx hb dX10_row_60 (by decide) (fun _ => ?_) (fun c9 => absurd (show (nI N) ≤ nI k from nI_le (a := N) (by omega) (by omega)) c9)
    have ek : k = N := by omega
    subst ek
    exact kx H locs ls hP hD hS hl
  | succ j ih =>
    intro k hk H locs ls hP hD hS hl
    refine lv_iload hx hb dX10_row_57 (lv_at hl 0 rfl) ?_
    refine lv_iload_n hx hb dX10_row_59 rfl (lv_at hl 4 rfl) ?_
    refine lv_icmp_ge (tgt := 82) hx hb dX10_row_60 (by decide) (fun c9 => absurd c9 (show ¬ (nI N) ≤ nI k from nI_ge (b := N) (by omega) (by omega))) (fun _ => ?_)
    refine lv_aload_n hx hb dX10_row_63 rfl (lv_at hl 1 rfl) ?_
    refine va_get (D := D) (ci := 10) (v := .ref a3) (C := RX10) (T := TX10) (N := 42) hx hb hts (fun w h => hT w (inX10 w h)) hown hK hP 0 rfl rfl 3 (by decide) (hts _ (hT _ q_f1191)) (fun _ h9 => h9) rfl dX10_row_64 ?_
    refine lv_bipush (v := 60) hx hb dX10_row_67 (by decide) ?_
    refine lv_iload_n hx hb dX10_row_69 rfl (lv_at hl 2 rfl) ?_
    refine lv_imul hx hb dX10_row_70 ?_
    refine pv_i (v := 60) (by decide) ?_
    refine lv_iload hx hb dX10_row_71 (lv_at hl 0 rfl) ?_
    refine lv_iadd hx hb dX10_row_73 ?_
    refine pv_i (v := (nI (60 + k))) (nI_add 60 k) ?_
    refine lv_lconst (v := 0) hx hb dX10_row_74 (by decide) ?_
    refine va_last hx hb hK hP hD hS 3 2 rfl rfl (vp_in_nI (by omega) (by decide)) dX10_row_75 (fun H locs hP hD hS => ?_)
    rw [updL0] at hP hD
    have hP : va_P D vwCl [(a0, .inr (10, [.int 0, .ref a1, .ref a2, .ref a3, .ref a4, .ref a5, .int 0, .int 0, .int 0, .int 0, .int 0, .long 0, .int 0, .int 0, .int 0, .int (-1), .ref a6, .ref a7, .ref a8, .ref a9, .ref a10, .ref a11, .ref a12, .ref a13, .int 0, .int 0, .ref a14, .ref a15, .int 0, .int 0, .int 0, .ref a16, .ref a17, .int 0, .int 0, .int 0, .int 0, .int 0, .ref a18, .int 0, .int 0, .int 0])), (a1, .inl (cI, 4, .inl f1)), (a2, .inl (cI, 4, .inl f2)), (a3, .inl (cJ, 240, .inr (.inl (fun _ => 0))))] H := hP
    have hD : va_D AA [(a0, .inr (10, [.int 0, .ref a1, .ref a2, .ref a3, .ref a4, .ref a5, .int 0, .int 0, .int 0, .int 0, .int 0, .long 0, .int 0, .int 0, .int 0, .int (-1), .ref a6, .ref a7, .ref a8, .ref a9, .ref a10, .ref a11, .ref a12, .ref a13, .int 0, .int 0, .ref a14, .ref a15, .int 0, .int 0, .int 0, .ref a16, .ref a17, .int 0, .int 0, .int 0, .int 0, .int 0, .ref a18, .int 0, .int 0, .int 0])), (a1, .inl (cI, 4, .inl f1)), (a2, .inl (cI, 4, .inl f2)), (a3, .inl (cJ, 240, .inr (.inl (fun _ => 0))))] := hD
    refine lv_iinc (v := (nI (k + 1))) (lv' := [(4, .int (nI (k + 1))), (0, .ref a0), (1, .int 1), (2, .int x0), (3, .int (nI N))]) hx hb dX10_row_76 hl (k := 0) rfl (nI_1 k) (by decide) rfl (fun ls hl => ?_)
    refine lv_goto (tgt := 57) hx hb dX10_row_79 (by decide) ?_
    exact ih (k + 1) (by omega) H locs ls hP hD hS (lv_sub hl [0, 1, 2, 3, 4] rfl)
set_option maxHeartbeats 4000000 in
set_option maxRecDepth 100000 in
theorem kX10_row_3 (l : Launch) (D : va_G) (cB cI cJ cZ cT cR : ClassId) (a0 a1 a2 a3 a4 a5 a6 a7 a8 a9 a10 a11 a12 a13 a14 a15 a16 a17 a18 : Nat) (x0 : Int32) (x1 : Int32) (hy0 : 0 ≤ x0 ∧ x0 ≤ 3) (hy1 : ¬ (60 < x1)) (hy2 : ¬ (x1 < 0)) (sz : Nat) : Met l yX10_row (uc yX10_row cX10_row 5 (some .int)) (rmL 3 0 0) (va_Pc [.ref a0, .int 1, .int x0, .int x1] (MPre D [(cB, .byte), (cI, .int), (cJ, .long), (cZ, .boolean), (cT, .object RX7), (cR, .object RX3)] [(a0, .inr (10, [.int 0, .ref a1, .ref a2, .ref a3, .ref a4, .ref a5, .int 0, .int 0, .int 0, .int 0, .int 0, .long 0, .int 0, .int 0, .int 0, .int (-1), .ref a6, .ref a7, .ref a8, .ref a9, .ref a10, .ref a11, .ref a12, .ref a13, .int 0, .int 0, .ref a14, .ref a15, .int 0, .int 0, .int 0, .ref a16, .ref a17, .int 0, .int 0, .int 0, .int 0, .int 0, .ref a18, .int 0, .int 0, .int 0])), (a1, .inl (cI, 4, .inl (fun _ => (-1)))), (a2, .inl (cI, 4, .inl (fun _ => 0))), (a3, .inl (cJ, 240, .inr (.inl (fun _ => 0))))] sz)) (va_Qi (fun (r : Int32) (_ : (Nat → Int32) × (Nat → Int32)) => r = 0) (MB D [(cB, .byte), (cI, .int), (cJ, .long), (cZ, .boolean), (cT, .object RX7), (cR, .object RX3)] [(a0, .inr (10, [.int 0, .ref a1, .ref a2, .ref a3, .ref a4, .ref a5, .int 0, .int 0, .int 0, .int 0, .int 0, .long 0, .int 0, .int 0, .int 0, .int (-1), .ref a6, .ref a7, .ref a8, .ref a9, .ref a10, .ref a11, .ref a12, .ref a13, .int 0, .int 0, .ref a14, .ref a15, .int 0, .int 0, .int 0, .ref a16, .ref a17, .int 0, .int 0, .int 0, .int 0, .int 0, .ref a18, .int 0, .int 0, .int 0])), (a1, .inl (cI, 4, .inl (fun _ => (-1)))), (a2, .inl (cI, 4, .inl (fun _ => 0))), (a3, .inl (cJ, 240, .inr (.inl (fun _ => 0))))] sz (fun (u : (Nat → Int32) × (Nat → Int32)) => [(a0, .inr (10, [.int 0, .ref a1, .ref a2, .ref a3, .ref a4, .ref a5, .int 0, .int 0, .int 0, .int 0, .int 0, .long 0, .int 0, .int 0, .int 0, .int (-1), .ref a6, .ref a7, .ref a8, .ref a9, .ref a10, .ref a11, .ref a12, .ref a13, .int 0, .int 0, .ref a14, .ref a15, .int 0, .int 0, .int 0, .ref a16, .ref a17, .int 0, .int 0, .int 0, .int 0, .int 0, .ref a18, .int 0, .int 0, .int 0])), (a1, .inl (cI, 4, .inl (u.1))), (a2, .inl (cI, 4, .inl (u.2))), (a3, .inl (cJ, 240, .inr (.inl (fun _ => 0))))])) (va_A [(a0, .inr (10, [.int 0, .ref a1, .ref a2, .ref a3, .ref a4, .ref a5, .int 0, .int 0, .int 0, .int 0, .int 0, .long 0, .int 0, .int 0, .int 0, .int (-1), .ref a6, .ref a7, .ref a8, .ref a9, .ref a10, .ref a11, .ref a12, .ref a13, .int 0, .int 0, .ref a14, .ref a15, .int 0, .int 0, .int 0, .ref a16, .ref a17, .int 0, .int 0, .int 0, .int 0, .int 0, .ref a18, .int 0, .int 0, .int 0])), (a1, .inl (cI, 4, .inl (fun _ => (-1)))), (a2, .inl (cI, 4, .inl (fun _ => 0))), (a3, .inl (cJ, 240, .inr (.inl (fun _ => 0))))] sz)) 0 0 (va_A [(a0, .inr (10, [.int 0, .ref a1, .ref a2, .ref a3, .ref a4, .ref a5, .int 0, .int 0, .int 0, .int 0, .int 0, .long 0, .int 0, .int 0, .int 0, .int (-1), .ref a6, .ref a7, .ref a8, .ref a9, .ref a10, .ref a11, .ref a12, .ref a13, .int 0, .int 0, .ref a14, .ref a15, .int 0, .int 0, .int 0, .ref a16, .ref a17, .int 0, .int 0, .int 0, .int 0, .int 0, .ref a18, .int 0, .int 0, .int 0])), (a1, .inl (cI, 4, .inl (fun _ => (-1)))), (a2, .inl (cI, 4, .inl (fun _ => 0))), (a3, .inl (cJ, 240, .inr (.inl (fun _ => 0))))] sz) := by
  refine pm (by decide) (Nat.le_of_ble_eq_true rfl) ?_
  intro p e s m below meth c ls hx hb hr hml hown hlk hnm hts hv hl
  have hown : s.vm.findClass RX10 = some m.cls := hown
  have hl : lv_has ls 5 [(0, .ref a0), (1, .int 1), (2, .int x0), (3, .int x1)] := hl
  obtain ⟨hsz, hP, hK, hD0, hE⟩ := hv
  subst hsz
  have hD := hD0.self (sz := s.heap.size)
  obtain ⟨AA, hAe⟩ : ∃ AA, AA = va_A [(a0, .inr (10, [.int 0, .ref a1, .ref a2, .ref a3, .ref a4, .ref a5, .int 0, .int 0, .int 0, .int 0, .int 0, .long 0, .int 0, .int 0, .int 0, .int (-1), .ref a6, .ref a7, .ref a8, .ref a9, .ref a10, .ref a11, .ref a12, .ref a13, .int 0, .int 0, .ref a14, .ref a15, .int 0, .int 0, .int 0, .ref a16, .ref a17, .int 0, .int 0, .int 0, .int 0, .int 0, .ref a18, .int 0, .int 0, .int 0])), (a1, .inl (cI, 4, .inl (fun _ => (-1)))), (a2, .inl (cI, 4, .inl (fun _ => 0))), (a3, .inl (cJ, 240, .inr (.inl (fun _ => 0))))] s.heap.size := ⟨_, rfl⟩
  rw [← hAe] at hD
  have hA : ∀ q : Nat, s.heap.size ≤ q → AA q := fun q h => by rw [hAe]; exact Or.inr h
  have hS : va_S AA s.heap s.heap [] := va_S.rf
  obtain ⟨-, hAOT, hAOR, hAOI⟩ := id hE
  refine lv_aload_n hx hb dX10_row_0 rfl (lv_at hl 0 rfl) ?_
  refine lv_iconst (v := 0) hx hb dX10_row_1 (by decide) ?_
  refine va_put (D := D) (ci := 10) (v := .int 0) (ty := .int) (C := RX10) (T := TX10) (N := 42) hx hb hts (fun w h => uc_in w (inX10 w h)) tyX10 tyX10_ok nmX10 hown hK hP hD hS 0 rfl rfl 0 (by decide) (hts _ (uc_in _ q_f1188)) (fun _ h9 => h9) rfl (by decide +kernel) rfl rfl (Nat.le_of_ble_eq_true rfl) dX10_row_2 (fun H locs hP hD hS => ?_)
  have hP : va_P D vwCl [(a0, .inr (10, [.int 0, .ref a1, .ref a2, .ref a3, .ref a4, .ref a5, .int 0, .int 0, .int 0, .int 0, .int 0, .long 0, .int 0, .int 0, .int 0, .int (-1), .ref a6, .ref a7, .ref a8, .ref a9, .ref a10, .ref a11, .ref a12, .ref a13, .int 0, .int 0, .ref a14, .ref a15, .int 0, .int 0, .int 0, .ref a16, .ref a17, .int 0, .int 0, .int 0, .int 0, .int 0, .ref a18, .int 0, .int 0, .int 0])), (a1, .inl (cI, 4, .inl (fun _ => (-1)))), (a2, .inl (cI, 4, .inl (fun _ => 0))), (a3, .inl (cJ, 240, .inr (.inl (fun _ => 0))))] H := hP
  have hD : va_D AA [(a0, .inr (10, [.int 0, .ref a1, .ref a2, .ref a3, .ref a4, .ref a5, .int 0, .int 0, .int 0, .int 0, .int 0, .long 0, .int 0, .int 0, .int 0, .int (-1), .ref a6, .ref a7, .ref a8, .ref a9, .ref a10, .ref a11, .ref a12, .ref a13, .int 0, .int 0, .ref a14, .ref a15, .int 0, .int 0, .int 0, .ref a16, .ref a17, .int 0, .int 0, .int 0, .int 0, .int 0, .ref a18, .int 0, .int 0, .int 0])), (a1, .inl (cI, 4, .inl (fun _ => (-1)))), (a2, .inl (cI, 4, .inl (fun _ => 0))), (a3, .inl (cJ, 240, .inr (.inl (fun _ => 0))))] := hD
  refine lv_iload_n hx hb dX10_row_5 rfl (lv_at hl 1 rfl) ?_
  refine csR (n := 1) (As := [.int 1]) (rest := []) ⟨hx, hb, hml, hown, hts⟩ uc_in (kX10_isSlot_3 l D cB cI cJ cZ cT cR ) q_m1320 q_s1321 q_i11 q_c1322 (by decide +kernel) ⟨(Nat.le_of_ble_eq_true rfl), (Nat.le_of_ble_eq_true rfl)⟩ ⟨(Nat.le_of_ble_eq_true rfl), (Nat.le_of_ble_eq_true rfl)⟩ hK (hP.sub (ws' := []) [] rfl) rfl hl.1 rfl (Nat.le_of_ble_eq_true rfl) dX10_row_6 ?_
  refine lv_if_eq (tgt := 30) hx hb dX10_row_9 (by decide) (fun c9 => absurd c9 (by decide)) (fun _ => ?_)
  refine lv_iload_n hx hb dX10_row_12 rfl (lv_at hl 2 rfl) ?_
  refine lv_i2l (v := x0.toInt64) hx hb dX10_row_13 rfl ?_
  refine lv_lconst (v := 0) hx hb dX10_row_14 (by decide) ?_
  refine lv_ldc2 (v := 3) hx hb hown (hts _ (uc_in _ q_k1323)) dX10_row_15 ?_
  refine csR (n := 3) (As := [.long x0.toInt64, .long 0, .long 3]) (rest := []) ⟨hx, hb, hml, hown, hts⟩ uc_in (k_in l D [(cB, .byte), (cI, .int), (cJ, .long), (cZ, .boolean), (cT, .object RX7), (cR, .object RX3)] x0.toInt64 0 3 1 (if_pos ((in64 (x := x0) (lo := 0) (hi := 3) (by decide) (by decide)).mpr hy0)).symm) q_m1324 q_s1325 q_i11 q_c1326 (by decide +kernel) ⟨(Nat.le_of_ble_eq_true rfl), (Nat.le_of_ble_eq_true rfl)⟩ ⟨(Nat.le_of_ble_eq_true rfl), (Nat.le_of_ble_eq_true rfl)⟩ hK (hP.sub (ws' := []) [] rfl) rfl hl.1 rfl (Nat.le_of_ble_eq_true rfl) dX10_row_18 ?_
  refine lv_if_eq (tgt := 30) hx hb dX10_row_21 (by decide) (fun c9 => absurd c9 (by decide)) (fun _ => ?_)
  refine lv_iload_n hx hb dX10_row_24 rfl (lv_at hl 3 rfl) ?_
  refine lv_bipush (v := 60) hx hb dX10_row_25 (by decide) ?_
  refine lv_icmp_le (tgt := 33) hx hb dX10_row_27 (by decide) (fun _ => ?_) (fun c9 => absurd (Int32.not_lt.mp hy1) c9)
  refine lv_iload_n hx hb dX10_row_33 rfl (lv_at hl 3 rfl) ?_
  refine lv_if_ge (tgt := 40) hx hb dX10_row_34 (by decide) (fun _ => ?_) (fun c9 => absurd (Int32.not_lt.mp hy2) c9)
  refine lv_aload_n hx hb dX10_row_40 rfl (lv_at hl 0 rfl) ?_
  refine va_get (D := D) (ci := 10) (v := .ref a1) (C := RX10) (T := TX10) (N := 42) hx hb hts (fun w h => uc_in w (inX10 w h)) hown hK hP 0 rfl rfl 1 (by decide) (hts _ (uc_in _ q_f1189)) (fun _ h9 => h9) rfl dX10_row_41 ?_
  refine lv_iload_n hx hb dX10_row_44 rfl (lv_at hl 1 rfl) ?_
  refine lv_iload_n hx hb dX10_row_45 rfl (lv_at hl 2 rfl) ?_
  refine va_iast hx hb hK hP hD hS 1 1 rfl rfl (vp_in_iff.mpr ⟨by decide, by decide⟩) dX10_row_46 (fun H locs hP hD hS => ?_)
  obtain ⟨f1, ef1⟩ : ∃ f9, f9 = upd (fun _ => (-1)) 1.toNatClampNeg x0 := ⟨_, rfl⟩
  rw [← ef1] at hP hD
  have hP : va_P D vwCl [(a0, .inr (10, [.int 0, .ref a1, .ref a2, .ref a3, .ref a4, .ref a5, .int 0, .int 0, .int 0, .int 0, .int 0, .long 0, .int 0, .int 0, .int 0, .int (-1), .ref a6, .ref a7, .ref a8, .ref a9, .ref a10, .ref a11, .ref a12, .ref a13, .int 0, .int 0, .ref a14, .ref a15, .int 0, .int 0, .int 0, .ref a16, .ref a17, .int 0, .int 0, .int 0, .int 0, .int 0, .ref a18, .int 0, .int 0, .int 0])), (a1, .inl (cI, 4, .inl f1)), (a2, .inl (cI, 4, .inl (fun _ => 0))), (a3, .inl (cJ, 240, .inr (.inl (fun _ => 0))))] H := hP
  have hD : va_D AA [(a0, .inr (10, [.int 0, .ref a1, .ref a2, .ref a3, .ref a4, .ref a5, .int 0, .int 0, .int 0, .int 0, .int 0, .long 0, .int 0, .int 0, .int 0, .int (-1), .ref a6, .ref a7, .ref a8, .ref a9, .ref a10, .ref a11, .ref a12, .ref a13, .int 0, .int 0, .ref a14, .ref a15, .int 0, .int 0, .int 0, .ref a16, .ref a17, .int 0, .int 0, .int 0, .int 0, .int 0, .ref a18, .int 0, .int 0, .int 0])), (a1, .inl (cI, 4, .inl f1)), (a2, .inl (cI, 4, .inl (fun _ => 0))), (a3, .inl (cJ, 240, .inr (.inl (fun _ => 0))))] := hD
  refine lv_aload_n hx hb dX10_row_47 rfl (lv_at hl 0 rfl) ?_
  refine va_get (D := D) (ci := 10) (v := .ref a2) (C := RX10) (T := TX10) (N := 42) hx hb hts (fun w h => uc_in w (inX10 w h)) hown hK hP 0 rfl rfl 2 (by decide) (hts _ (uc_in _ q_f1190)) (fun _ h9 => h9) rfl dX10_row_48 ?_
  refine lv_iload_n hx hb dX10_row_51 rfl (lv_at hl 1 rfl) ?_
  refine lv_iload_n hx hb dX10_row_52 rfl (lv_at hl 3 rfl) ?_
  refine va_iast hx hb hK hP hD hS 2 1 rfl rfl (vp_in_iff.mpr ⟨by decide, by decide⟩) dX10_row_53 (fun H locs hP hD hS => ?_)
  obtain ⟨f2, ef2⟩ : ∃ f9, f9 = upd (fun _ => 0) 1.toNatClampNeg x1 := ⟨_, rfl⟩
  rw [← ef2] at hP hD
  have hP : va_P D vwCl [(a0, .inr (10, [.int 0, .ref a1, .ref a2, .ref a3, .ref a4, .ref a5, .int 0, .int 0, .int 0, .int 0, .int 0, .long 0, .int 0, .int 0, .int 0, .int (-1), .ref a6, .ref a7, .ref a8, .ref a9, .ref a10, .ref a11, .ref a12, .ref a13, .int 0, .int 0, .ref a14, .ref a15, .int 0, .int 0, .int 0, .ref a16, .ref a17, .int 0, .int 0, .int 0, .int 0, .int 0, .ref a18, .int 0, .int 0, .int 0])), (a1, .inl (cI, 4, .inl f1)), (a2, .inl (cI, 4, .inl f2)), (a3, .inl (cJ, 240, .inr (.inl (fun _ => 0))))] H := hP
  have hD : va_D AA [(a0, .inr (10, [.int 0, .ref a1, .ref a2, .ref a3, .ref a4, .ref a5, .int 0, .int 0, .int 0, .int 0, .int 0, .long 0, .int 0, .int 0, .int 0, .int (-1), .ref a6, .ref a7, .ref a8, .ref a9, .ref a10, .ref a11, .ref a12, .ref a13, .int 0, .int 0, .ref a14, .ref a15, .int 0, .int 0, .int 0, .ref a16, .ref a17, .int 0, .int 0, .int 0, .int 0, .int 0, .ref a18, .int 0, .int 0, .int 0])), (a1, .inl (cI, 4, .inl f1)), (a2, .inl (cI, 4, .inl f2)), (a3, .inl (cJ, 240, .inr (.inl (fun _ => 0))))] := hD
  refine lv_iconst (v := 0) hx hb dX10_row_54 (by decide) ?_
  refine lv_istore (lv' := [(4, .int 0), (0, .ref a0), (1, .int 1), (2, .int x0), (3, .int x1)]) hx hb dX10_row_55 hl (by decide) rfl (fun ls hl => ?_)
  obtain ⟨N, hN, hNe⟩ := nI_of2 (M := 60) (n := 60) (by decide) hy2 (Int32.not_lt.mp hy1)
  subst hNe
  refine lp_X10_row_438 hx hb uc_in hts hown hK hN (fun H locs ls hP hD hS hl => ?_) N 0 (by omega) H locs ls hP hD hS hl
  have hP : va_P D vwCl [(a0, .inr (10, [.int 0, .ref a1, .ref a2, .ref a3, .ref a4, .ref a5, .int 0, .int 0, .int 0, .int 0, .int 0, .long 0, .int 0, .int 0, .int 0, .int (-1), .ref a6, .ref a7, .ref a8, .ref a9, .ref a10, .ref a11, .ref a12, .ref a13, .int 0, .int 0, .ref a14, .ref a15, .int 0, .int 0, .int 0, .ref a16, .ref a17, .int 0, .int 0, .int 0, .int 0, .int 0, .ref a18, .int 0, .int 0, .int 0])), (a1, .inl (cI, 4, .inl f1)), (a2, .inl (cI, 4, .inl f2)), (a3, .inl (cJ, 240, .inr (.inl (fun _ => 0))))] H := hP
  have hD : va_D AA [(a0, .inr (10, [.int 0, .ref a1, .ref a2, .ref a3, .ref a4, .ref a5, .int 0, .int 0, .int 0, .int 0, .int 0, .long 0, .int 0, .int 0, .int 0, .int (-1), .ref a6, .ref a7, .ref a8, .ref a9, .ref a10, .ref a11, .ref a12, .ref a13, .int 0, .int 0, .ref a14, .ref a15, .int 0, .int 0, .int 0, .ref a16, .ref a17, .int 0, .int 0, .int 0, .int 0, .int 0, .ref a18, .int 0, .int 0, .int 0])), (a1, .inl (cI, 4, .inl f1)), (a2, .inl (cI, 4, .inl f2)), (a3, .inl (cJ, 240, .inr (.inl (fun _ => 0))))] := hD
  refine lv_iconst (v := 0) hx hb dX10_row_82 (by decide) ?_
  subst hAe
  have hP9 := hP.sub (ws' := [(a0, .inr (10, [.int 0, .ref a1, .ref a2, .ref a3, .ref a4, .ref a5, .int 0, .int 0, .int 0, .int 0, .int 0, .long 0, .int 0, .int 0, .int 0, .int (-1), .ref a6, .ref a7, .ref a8, .ref a9, .ref a10, .ref a11, .ref a12, .ref a13, .int 0, .int 0, .ref a14, .ref a15, .int 0, .int 0, .int 0, .ref a16, .ref a17, .int 0, .int 0, .int 0, .int 0, .int 0, .ref a18, .int 0, .int 0, .int 0])), (a1, .inl (cI, 4, .inl f1)), (a2, .inl (cI, 4, .inl f2)), (a3, .inl (cJ, 240, .inr (.inl (fun _ => 0))))]) [0, 1, 2, 3] rfl
  have hD9 := hD.sub (ws' := [(a0, .inr (10, [.int 0, .ref a1, .ref a2, .ref a3, .ref a4, .ref a5, .int 0, .int 0, .int 0, .int 0, .int 0, .long 0, .int 0, .int 0, .int 0, .int (-1), .ref a6, .ref a7, .ref a8, .ref a9, .ref a10, .ref a11, .ref a12, .ref a13, .int 0, .int 0, .ref a14, .ref a15, .int 0, .int 0, .int 0, .ref a16, .ref a17, .int 0, .int 0, .int 0, .int 0, .int 0, .ref a18, .int 0, .int 0, .int 0])), (a1, .inl (cI, 4, .inl f1)), (a2, .inl (cI, 4, .inl f2)), (a3, .inl (cJ, 240, .inr (.inl (fun _ => 0))))]) [0, 1, 2, 3] rfl rfl
  exact W.iret hx hb hr (fun t ht hW => ⟨⟨0, (f1, f2), rfl, rfl, by rw [ht]; exact hP9, va_K.moved hW.alike hK, hD9⟩, hS.F ht⟩) hS.2.2 dX10_row_83
set_option maxHeartbeats 4000000 in
set_option maxRecDepth 100000 in
theorem kX9_isSlot_4 (l : Launch) (D : va_G) (cB cI cJ cZ cT cR : ClassId) : Met l yX9_isSlot (uc yX9_isSlot cX9_isSlot 1 (some .boolean)) (rmL 2 0 0) (va_Pc [.int 2] (RPre D [(cB, .byte), (cI, .int), (cJ, .long), (cZ, .boolean), (cT, .object RX7), (cR, .object RX3)] [])) (QcRead 1) 0 0 (fun _ => False) := by
  refine pm (by decide) (Nat.le_of_ble_eq_true rfl) ?_
  intro p e s m below meth c ls hx hb hr hml hown hlk hnm hts hv hl
  have hown : s.vm.findClass RX9 = some m.cls := hown
  have hl : lv_has ls 1 [(0, .int 2)] := hl
  obtain ⟨hP, hK⟩ := hv
  refine lv_iload_n hx hb dX9_isSlot_0 rfl (lv_at hl 0 rfl) ?_
  refine lv_iconst (v := 0) hx hb dX9_isSlot_1 (by decide) ?_
  refine lv_iconst (v := 3) hx hb dX9_isSlot_2 (by decide) ?_
  refine csR (n := 3) (As := [.int 2, .int 0, .int 3]) (rest := []) ⟨hx, hb, hml, hown, hts⟩ uc_in (k_isWithin l D [(cB, .byte), (cI, .int), (cJ, .long), (cZ, .boolean), (cT, .object RX7), (cR, .object RX3)] 2 0 3 1 (if_pos (by decide)).symm) q_m651 q_s652 q_i1 q_c653 (by decide +kernel) ⟨(Nat.le_of_ble_eq_true rfl), (Nat.le_of_ble_eq_true rfl)⟩ ⟨(Nat.le_of_ble_eq_true rfl), (Nat.le_of_ble_eq_true rfl)⟩ hK (hP.sub (ws' := []) [] rfl) rfl hl.1 rfl (Nat.le_of_ble_eq_true rfl) dX9_isSlot_3 ?_
  exact W.zret hx hb hr rfl (fun t ht _ => ⟨rfl, ht⟩) (fun _ h => by cases h) dX9_isSlot_6
set_option maxHeartbeats 4000000 in
set_option maxRecDepth 100000 in
theorem kX9_row_4 (l : Launch) (D : va_G) (cB cI cJ cZ cT cR : ClassId) (a0 a1 a2 a3 a4 a5 a6 a7 a8 a9 a10 a11 a12 a13 a14 a15 a16 : Nat) (x0 : Int32) (x1 : Int32) (hy0 : 0 ≤ x0 ∧ x0 ≤ 3) (hy1 : ¬ (60 < x1)) (hy2 : ¬ (x1 < 0)) (sz : Nat) : Met l yX9_row (uc yX9_row cX9_row 4 (some .int)) (rmL 3 0 0) (va_Pc [.ref a0, .int 2, .int x0, .int x1] (MPre D [(cB, .byte), (cI, .int), (cJ, .long), (cZ, .boolean), (cT, .object RX7), (cR, .object RX3)] [(a0, .inr (9, [.ref a4, .ref a5, .ref a6, .ref a7, .int 0, .ref a8, .ref a1, .ref a9, .ref a10, .ref a11, .ref a12, .ref a13])), (a1, .inl (cR, 4, .inr (.inr (.inr (.inr (va_up (va_up (va_up (va_up (fun _ => none) 0 (some a14)) 1 (some a15)) 2 (some a2)) 3 (some a16))))))), (a2, .inr (3, [.int (-1), .int 0, .ref a3])), (a3, .inl (cJ, 60, .inr (.inl (fun _ => 0))))] sz)) (va_Qi (fun (r : Int32) (_ : Unit) => r = 0) (MB D [(cB, .byte), (cI, .int), (cJ, .long), (cZ, .boolean), (cT, .object RX7), (cR, .object RX3)] [(a0, .inr (9, [.ref a4, .ref a5, .ref a6, .ref a7, .int 0, .ref a8, .ref a1, .ref a9, .ref a10, .ref a11, .ref a12, .ref a13])), (a1, .inl (cR, 4, .inr (.inr (.inr (.inr (va_up (va_up (va_up (va_up (fun _ => none) 0 (some a14)) 1 (some a15)) 2 (some a2)) 3 (some a16))))))), (a2, .inr (3, [.int (-1), .int 0, .ref a3])), (a3, .inl (cJ, 60, .inr (.inl (fun _ => 0))))] sz (fun (u : Unit) => [(a0, .inr (9, [.ref a4, .ref a5, .ref a6, .ref a7, .int 0, .ref a8, .ref a1, .ref a9, .ref a10, .ref a11, .ref a12, .ref a13])), (a1, .inl (cR, 4, .inr (.inr (.inr (.inr (va_up (va_up (va_up (va_up (fun _ => none) 0 (some a14)) 1 (some a15)) 2 (some a2)) 3 (some a16))))))), (a2, .inr (3, [.int x1, .int x0, .ref a3])), (a3, .inl (cJ, 60, .inr (.inl (fun _ => 0))))])) (va_A [(a0, .inr (9, [.ref a4, .ref a5, .ref a6, .ref a7, .int 0, .ref a8, .ref a1, .ref a9, .ref a10, .ref a11, .ref a12, .ref a13])), (a1, .inl (cR, 4, .inr (.inr (.inr (.inr (va_up (va_up (va_up (va_up (fun _ => none) 0 (some a14)) 1 (some a15)) 2 (some a2)) 3 (some a16))))))), (a2, .inr (3, [.int (-1), .int 0, .ref a3])), (a3, .inl (cJ, 60, .inr (.inl (fun _ => 0))))] sz)) 0 0 (va_A [(a0, .inr (9, [.ref a4, .ref a5, .ref a6, .ref a7, .int 0, .ref a8, .ref a1, .ref a9, .ref a10, .ref a11, .ref a12, .ref a13])), (a1, .inl (cR, 4, .inr (.inr (.inr (.inr (va_up (va_up (va_up (va_up (fun _ => none) 0 (some a14)) 1 (some a15)) 2 (some a2)) 3 (some a16))))))), (a2, .inr (3, [.int (-1), .int 0, .ref a3])), (a3, .inl (cJ, 60, .inr (.inl (fun _ => 0))))] sz) := by
  refine pm (by decide) (Nat.le_of_ble_eq_true rfl) ?_
  intro p e s m below meth c ls hx hb hr hml hown hlk hnm hts hv hl
  have hown : s.vm.findClass RX9 = some m.cls := hown
  have hl : lv_has ls 4 [(0, .ref a0), (1, .int 2), (2, .int x0), (3, .int x1)] := hl
  obtain ⟨hsz, hP, hK, hD0, hE⟩ := hv
  subst hsz
  have hD := hD0.self (sz := s.heap.size)
  obtain ⟨AA, hAe⟩ : ∃ AA, AA = va_A [(a0, .inr (9, [.ref a4, .ref a5, .ref a6, .ref a7, .int 0, .ref a8, .ref a1, .ref a9, .ref a10, .ref a11, .ref a12, .ref a13])), (a1, .inl (cR, 4, .inr (.inr (.inr (.inr (va_up (va_up (va_up (va_up (fun _ => none) 0 (some a14)) 1 (some a15)) 2 (some a2)) 3 (some a16))))))), (a2, .inr (3, [.int (-1), .int 0, .ref a3])), (a3, .inl (cJ, 60, .inr (.inl (fun _ => 0))))] s.heap.size := ⟨_, rfl⟩
  rw [← hAe] at hD
  have hA : ∀ q : Nat, s.heap.size ≤ q → AA q := fun q h => by rw [hAe]; exact Or.inr h
  have hS : va_S AA s.heap s.heap [] := va_S.rf
  obtain ⟨-, hAOT, hAOR, hAOI⟩ := id hE
  refine lv_iload_n hx hb dX9_row_0 rfl (lv_at hl 1 rfl) ?_
  refine csR (n := 1) (As := [.int 2]) (rest := []) ⟨hx, hb, hml, hown, hts⟩ uc_in (kX9_isSlot_4 l D cB cI cJ cZ cT cR ) q_m911 q_s912 q_i1 q_c913 (by decide +kernel) ⟨(Nat.le_of_ble_eq_true rfl), (Nat.le_of_ble_eq_true rfl)⟩ ⟨(Nat.le_of_ble_eq_true rfl), (Nat.le_of_ble_eq_true rfl)⟩ hK (hP.sub (ws' := []) [] rfl) rfl hl.1 rfl (Nat.le_of_ble_eq_true rfl) dX9_row_1 ?_
  refine lv_if_eq (tgt := 22) hx hb dX9_row_4 (by decide) (fun c9 => absurd c9 (by decide)) (fun _ => ?_)
  refine lv_iload_n hx hb dX9_row_7 rfl (lv_at hl 2 rfl) ?_
  refine lv_iconst (v := 0) hx hb dX9_row_8 (by decide) ?_
  refine lv_iconst (v := 3) hx hb dX9_row_9 (by decide) ?_
  refine csR (n := 3) (As := [.int x0, .int 0, .int 3]) (rest := []) ⟨hx, hb, hml, hown, hts⟩ uc_in (k_isWithin l D [(cB, .byte), (cI, .int), (cJ, .long), (cZ, .boolean), (cT, .object RX7), (cR, .object RX3)] x0 0 3 1 (if_pos hy0).symm) q_m651 q_s652 q_i1 q_c653 (by decide +kernel) ⟨(Nat.le_of_ble_eq_true rfl), (Nat.le_of_ble_eq_true rfl)⟩ ⟨(Nat.le_of_ble_eq_true rfl), (Nat.le_of_ble_eq_true rfl)⟩ hK (hP.sub (ws' := []) [] rfl) rfl hl.1 rfl (Nat.le_of_ble_eq_true rfl) dX9_row_10 ?_
  refine lv_if_eq (tgt := 22) hx hb dX9_row_13 (by decide) (fun c9 => absurd c9 (by decide)) (fun _ => ?_)
  refine lv_iload_n hx hb dX9_row_16 rfl (lv_at hl 3 rfl) ?_
  refine lv_bipush (v := 60) hx hb dX9_row_17 (by decide) ?_
  refine lv_icmp_le (tgt := 25) hx hb dX9_row_19 (by decide) (fun _ => ?_) (fun c9 => absurd (Int32.not_lt.mp hy1) c9)
  refine lv_iload_n hx hb dX9_row_25 rfl (lv_at hl 3 rfl) ?_
  refine lv_if_ge (tgt := 32) hx hb dX9_row_26 (by decide) (fun _ => ?_) (fun c9 => absurd (Int32.not_lt.mp hy2) c9)
  refine lv_aload_n hx hb dX9_row_32 rfl (lv_at hl 0 rfl) ?_
  refine va_get (D := D) (ci := 9) (v := .ref a1) (C := RX9) (T := TX9) (N := 12) hx hb hts (fun w h => uc_in w (inX9 w h)) hown hK hP 0 rfl rfl 6 (by decide) (hts _ (uc_in _ q_f389)) (fun _ h9 => h9) rfl dX9_row_33 ?_
  refine lv_iload_n hx hb dX9_row_36 rfl (lv_at hl 1 rfl) ?_
  refine va_aldq hx hb hK hP 1 5 rfl rfl (vp_in_iff.mpr ⟨by decide, by decide⟩) dX9_row_37 ?_
  refine pv_v (v := .ref a2) rfl ?_
  refine lv_iload_n hx hb dX9_row_38 rfl (lv_at hl 2 rfl) ?_
  refine lv_iload_n hx hb dX9_row_39 rfl (lv_at hl 3 rfl) ?_
  refine cvV (n := 2) (As := [.int x0, .int x1]) (rest := []) (wr := [(a0, .inr (9, [.ref a4, .ref a5, .ref a6, .ref a7, .int 0, .ref a8, .ref a1, .ref a9, .ref a10, .ref a11, .ref a12, .ref a13])), (a1, .inl (cR, 4, .inr (.inr (.inr (.inr (va_up (va_up (va_up (va_up (fun _ => none) 0 (some a14)) 1 (some a15)) 2 (some a2)) 3 (some a16)))))))]) ⟨hx, hb, hml, hown, hts⟩ uc_in (kX3_begin_0 l D cB cI cJ cZ cT cR a2 a3 x0 x1 H.size) q_m1162 q_n1163 q_e1164 q_i5 q_c1165 (by decide +kernel) ⟨(Nat.le_of_ble_eq_true rfl), (Nat.le_of_ble_eq_true rfl)⟩ ⟨(Nat.le_of_ble_eq_true rfl), (Nat.le_of_ble_eq_true rfl)⟩ hE hK hP hD hS hA [2, 3] [0, 1] rfl rfl rfl rfl (by decide) 3 0 rfl rfl rfl hl.1 rfl (Nat.le_of_ble_eq_true rfl) dX9_row_40 (fun u H locs hpo hP hD hS => ?_)
  have hP : va_P D vwCl [(a0, .inr (9, [.ref a4, .ref a5, .ref a6, .ref a7, .int 0, .ref a8, .ref a1, .ref a9, .ref a10, .ref a11, .ref a12, .ref a13])), (a1, .inl (cR, 4, .inr (.inr (.inr (.inr (va_up (va_up (va_up (va_up (fun _ => none) 0 (some a14)) 1 (some a15)) 2 (some a2)) 3 (some a16))))))), (a2, .inr (3, [.int x1, .int x0, .ref a3])), (a3, .inl (cJ, 60, .inr (.inl (fun _ => 0))))] H := hP
  have hD : va_D AA [(a0, .inr (9, [.ref a4, .ref a5, .ref a6, .ref a7, .int 0, .ref a8, .ref a1, .ref a9, .ref a10, .ref a11, .ref a12, .ref a13])), (a1, .inl (cR, 4, .inr (.inr (.inr (.inr (va_up (va_up (va_up (va_up (fun _ => none) 0 (some a14)) 1 (some a15)) 2 (some a2)) 3 (some a16))))))), (a2, .inr (3, [.int x1, .int x0, .ref a3])), (a3, .inl (cJ, 60, .inr (.inl (fun _ => 0))))] := hD
  refine W.cs (cells' := 0) (slots' := 0) rfl rfl ?_
  refine lv_iconst (v := 0) hx hb dX9_row_43 (by decide) ?_
  subst hAe
  have hP9 := hP.sub (ws' := [(a0, .inr (9, [.ref a4, .ref a5, .ref a6, .ref a7, .int 0, .ref a8, .ref a1, .ref a9, .ref a10, .ref a11, .ref a12, .ref a13])), (a1, .inl (cR, 4, .inr (.inr (.inr (.inr (va_up (va_up (va_up (va_up (fun _ => none) 0 (some a14)) 1 (some a15)) 2 (some a2)) 3 (some a16))))))), (a2, .inr (3, [.int x1, .int x0, .ref a3])), (a3, .inl (cJ, 60, .inr (.inl (fun _ => 0))))]) [0, 1, 2, 3] rfl
  have hD9 := hD.sub (ws' := [(a0, .inr (9, [.ref a4, .ref a5, .ref a6, .ref a7, .int 0, .ref a8, .ref a1, .ref a9, .ref a10, .ref a11, .ref a12, .ref a13])), (a1, .inl (cR, 4, .inr (.inr (.inr (.inr (va_up (va_up (va_up (va_up (fun _ => none) 0 (some a14)) 1 (some a15)) 2 (some a2)) 3 (some a16))))))), (a2, .inr (3, [.int x1, .int x0, .ref a3])), (a3, .inl (cJ, 60, .inr (.inl (fun _ => 0))))]) [0, 1, 2, 3] rfl rfl
  exact W.iret hx hb hr (fun t ht hW => ⟨⟨0, (), rfl, rfl, by rw [ht]; exact hP9, va_K.moved hW.alike hK, hD9⟩, hS.F ht⟩) hS.2.2 dX9_row_44
set_option maxHeartbeats 4000000 in
set_option maxRecDepth 100000 in
theorem kX10_isSlot_4 (l : Launch) (D : va_G) (cB cI cJ cZ cT cR : ClassId) : Met l yX10_isSlot (uc yX10_isSlot cX10_isSlot 1 (some .boolean)) (rmL 2 0 0) (va_Pc [.int 2] (RPre D [(cB, .byte), (cI, .int), (cJ, .long), (cZ, .boolean), (cT, .object RX7), (cR, .object RX3)] [])) (QcRead 1) 0 0 (fun _ => False) := by
  refine pm (by decide) (Nat.le_of_ble_eq_true rfl) ?_
  intro p e s m below meth c ls hx hb hr hml hown hlk hnm hts hv hl
  have hown : s.vm.findClass RX10 = some m.cls := hown
  have hl : lv_has ls 1 [(0, .int 2)] := hl
  obtain ⟨hP, hK⟩ := hv
  refine lv_iload_n hx hb dX10_isSlot_0 rfl (lv_at hl 0 rfl) ?_
  refine lv_i2l (v := 2) hx hb dX10_isSlot_1 (by decide) ?_
  refine lv_lconst (v := 0) hx hb dX10_isSlot_2 (by decide) ?_
  refine lv_ldc2 (v := 3) hx hb hown (hts _ (uc_in _ q_k1323)) dX10_isSlot_3 ?_
  refine csR (n := 3) (As := [.long 2, .long 0, .long 3]) (rest := []) ⟨hx, hb, hml, hown, hts⟩ uc_in (k_in l D [(cB, .byte), (cI, .int), (cJ, .long), (cZ, .boolean), (cT, .object RX7), (cR, .object RX3)] 2 0 3 1 (if_pos (by decide)).symm) q_m1324 q_s1325 q_i11 q_c1326 (by decide +kernel) ⟨(Nat.le_of_ble_eq_true rfl), (Nat.le_of_ble_eq_true rfl)⟩ ⟨(Nat.le_of_ble_eq_true rfl), (Nat.le_of_ble_eq_true rfl)⟩ hK (hP.sub (ws' := []) [] rfl) rfl hl.1 rfl (Nat.le_of_ble_eq_true rfl) dX10_isSlot_6 ?_
  exact W.zret hx hb hr rfl (fun t ht _ => ⟨rfl, ht⟩) (fun _ h => by cases h) dX10_isSlot_9
set_option maxHeartbeats 4000000 in
set_option maxRecDepth 100000 in
theorem lp_X10_row_443 {p : Program} {l : Launch} {e : Env} {R : Room} {s : State} {m : MethodId} {args : Array Value} {below : List Frame} {meth : Method} {c : Code} {cells slots : Nat} {Q : State → Prop} {D : va_G} {AA : Nat → Prop} {H0 : Heap} {Ts : List Cond} {cB cI cJ cZ cT cR : ClassId} {a0 : Nat} {a1 : Nat} {a10 : Nat} {a11 : Nat} {a12 : Nat} {a13 : Nat} {a14 : Nat} {a15 : Nat} {a16 : Nat} {a17 : Nat} {a18 : Nat} {a2 : Nat} {a3 : Nat} {a4 : Nat} {a5 : Nat} {a6 : Nat} {a7 : Nat} {a8 : Nat} {a9 : Nat} {x0 : Int32} {f1 : Nat → Int32} {f2 : Nat → Int32} {N : Nat} (hx : p.tables.exec = Jvm.exec) (hb : c.code = cX10_row) (hT : ∀ w ∈ uw, w ∈ Ts) (hts : ∀ w ∈ Ts, w.before args s = true) (hown : s.vm.findClass RX10 = some m.cls) (hK : va_K D vwCl [(cB, .byte), (cI, .int), (cJ, .long), (cZ, .boolean), (cT, .object RX7), (cR, .object RX3)] s) (hN : N ≤ 60)
    (kx : ∀ (H : Heap) (locs : List Loc) (ls : Array Slot), va_P D vwCl [(a0, .inr (10, [.int 0, .ref a1, .ref a2, .ref a3, .ref a4, .ref a5, .int 0, .int 0, .int 0, .int 0, .int 0, .long 0, .int 0, .int 0, .int 0, .int (-1), .ref a6, .ref a7, .ref a8, .ref a9, .ref a10, .ref a11, .ref a12, .ref a13, .int 0, .int 0, .ref a14, .ref a15, .int 0, .int 0, .int 0, .ref a16, .ref a17, .int 0, .int 0, .int 0, .int 0, .int 0, .ref a18, .int 0, .int 0, .int 0])), (a1, .inl (cI, 4, .inl f1)), (a2, .inl (cI, 4, .inl f2)), (a3, .inl (cJ, 240, .inr (.inl (fun _ => 0))))] H → va_D AA [(a0, .inr (10, [.int 0, .ref a1, .ref a2, .ref a3, .ref a4, .ref a5, .int 0, .int 0, .int 0, .int 0, .int 0, .long 0, .int 0, .int 0, .int 0, .int (-1), .ref a6, .ref a7, .ref a8, .ref a9, .ref a10, .ref a11, .ref a12, .ref a13, .int 0, .int 0, .ref a14, .ref a15, .int 0, .int 0, .int 0, .ref a16, .ref a17, .int 0, .int 0, .int 0, .int 0, .int 0, .ref a18, .int 0, .int 0, .int 0])), (a1, .inl (cI, 4, .inl f1)), (a2, .inl (cI, 4, .inl f2)), (a3, .inl (cJ, 240, .inr (.inl (fun _ => 0))))] → va_S AA H0 H locs → lv_has ls 5 [(4, .int (nI N)), (0, .ref a0), (1, .int 2), (2, .int x0), (3, .int (nI N))] → W p l e R s m args below meth c H locs cells slots Q (F0 m 82 ls [])) :
    ∀ (j k : Nat), k + j = N → ∀ (H : Heap) (locs : List Loc) (ls : Array Slot), va_P D vwCl [(a0, .inr (10, [.int 0, .ref a1, .ref a2, .ref a3, .ref a4, .ref a5, .int 0, .int 0, .int 0, .int 0, .int 0, .long 0, .int 0, .int 0, .int 0, .int (-1), .ref a6, .ref a7, .ref a8, .ref a9, .ref a10, .ref a11, .ref a12, .ref a13, .int 0, .int 0, .ref a14, .ref a15, .int 0, .int 0, .int 0, .ref a16, .ref a17, .int 0, .int 0, .int 0, .int 0, .int 0, .ref a18, .int 0, .int 0, .int 0])), (a1, .inl (cI, 4, .inl f1)), (a2, .inl (cI, 4, .inl f2)), (a3, .inl (cJ, 240, .inr (.inl (fun _ => 0))))] H → va_D AA [(a0, .inr (10, [.int 0, .ref a1, .ref a2, .ref a3, .ref a4, .ref a5, .int 0, .int 0, .int 0, .int 0, .int 0, .long 0, .int 0, .int 0, .int 0, .int (-1), .ref a6, .ref a7, .ref a8, .ref a9, .ref a10, .ref a11, .ref a12, .ref a13, .int 0, .int 0, .ref a14, .ref a15, .int 0, .int 0, .int 0, .ref a16, .ref a17, .int 0, .int 0, .int 0, .int 0, .int 0, .ref a18, .int 0, .int 0, .int 0])), (a1, .inl (cI, 4, .inl f1)), (a2, .inl (cI, 4, .inl f2)), (a3, .inl (cJ, 240, .inr (.inl (fun _ => 0))))] → va_S AA H0 H locs → lv_has ls 5 [(4, .int (nI k)), (0, .ref a0), (1, .int 2), (2, .int x0), (3, .int (nI N))] → W p l e R s m args below meth c H locs cells slots Q (F0 m 57 ls []) := by
  intro j
  induction j with
  | zero =>
    intro k hk H locs ls hP hD hS hl
    refine lv_iload hx hb dX10_row_57 (lv_at hl 0 rfl) ?_
    refine lv_iload_n hx hb dX10_row_59 rfl (lv_at hl 4 rfl) ?_
    refine lv_icmp_ge (tgt := 82) hx hb dX10_row_60 (by decide) (fun _ => ?_) (fun c9 => absurd (show (nI N) ≤ nI k from nI_le (a := N) (by omega) (by omega)) c9)
    have ek : k = N := by omega
    subst ek
    exact kx H locs ls hP hD hS hl
  | succ j ih =>
    intro k hk H locs ls hP hD hS hl
    refine lv_iload hx hb dX10_row_57 (lv_at hl 0 rfl) ?_
    refine lv_iload_n hx hb dX10_row_59 rfl (lv_at hl 4 rfl) ?_
    refine lv_icmp_ge (tgt := 82) hx hb dX10_row_60 (by decide) (fun c9 => absurd c9 (show ¬ (nI N) ≤ nI k from nI_ge (b := N) (by omega) (by omega))) (fun _ => ?_)
    refine lv_aload_n hx hb dX10_row_63 rfl (lv_at hl 1 rfl) ?_
    refine va_get (D := D) (ci := 10) (v := .ref a3) (C := RX10) (T := TX10) (N := 42) hx hb hts (fun w h => hT w (inX10 w h)) hown hK hP 0 rfl rfl 3 (by decide) (hts _ (hT _ q_f1191)) (fun _ h9 => h9) rfl dX10_row_64 ?_
    refine lv_bipush (v := 60) hx hb dX10_row_67 (by decide) ?_
    refine lv_iload_n hx hb dX10_row_69 rfl (lv_at hl 2 rfl) ?_
    refine lv_imul hx hb dX10_row_70 ?_
    refine pv_i (v := 120) (by decide) ?_
    refine lv_iload hx hb dX10_row_71 (lv_at hl 0 rfl) ?_
    refine lv_iadd hx hb dX10_row_73 ?_
    refine pv_i (v := (nI (120 + k))) (nI_add 120 k) ?_
    refine lv_lconst (v := 0) hx hb dX10_row_74 (by decide) ?_
    refine va_last hx hb hK hP hD hS 3 2 rfl rfl (vp_in_nI (by omega) (by decide)) dX10_row_75 (fun H locs hP hD hS => ?_)
    rw [updL0] at hP hD
    have hP : va_P D vwCl [(a0, .inr (10, [.int 0, .ref a1, .ref a2, .ref a3, .ref a4, .ref a5, .int 0, .int 0, .int 0, .int 0, .int 0, .long 0, .int 0, .int 0, .int 0, .int (-1), .ref a6, .ref a7, .ref a8, .ref a9, .ref a10, .ref a11, .ref a12, .ref a13, .int 0, .int 0, .ref a14, .ref a15, .int 0, .int 0, .int 0, .ref a16, .ref a17, .int 0, .int 0, .int 0, .int 0, .int 0, .ref a18, .int 0, .int 0, .int 0])), (a1, .inl (cI, 4, .inl f1)), (a2, .inl (cI, 4, .inl f2)), (a3, .inl (cJ, 240, .inr (.inl (fun _ => 0))))] H := hP
    have hD : va_D AA [(a0, .inr (10, [.int 0, .ref a1, .ref a2, .ref a3, .ref a4, .ref a5, .int 0, .int 0, .int 0, .int 0, .int 0, .long 0, .int 0, .int 0, .int 0, .int (-1), .ref a6, .ref a7, .ref a8, .ref a9, .ref a10, .ref a11, .ref a12, .ref a13, .int 0, .int 0, .ref a14, .ref a15, .int 0, .int 0, .int 0, .ref a16, .ref a17, .int 0, .int 0, .int 0, .int 0, .int 0, .ref a18, .int 0, .int 0, .int 0])), (a1, .inl (cI, 4, .inl f1)), (a2, .inl (cI, 4, .inl f2)), (a3, .inl (cJ, 240, .inr (.inl (fun _ => 0))))] := hD
    refine lv_iinc (v := (nI (k + 1))) (lv' := [(4, .int (nI (k + 1))), (0, .ref a0), (1, .int 2), (2, .int x0), (3, .int (nI N))]) hx hb dX10_row_76 hl (k := 0) rfl (nI_1 k) (by decide) rfl (fun ls hl => ?_)
    refine lv_goto (tgt := 57) hx hb dX10_row_79 (by decide) ?_
    exact ih (k + 1) (by omega) H locs ls hP hD hS (lv_sub hl [0, 1, 2, 3, 4] rfl)
set_option maxHeartbeats 4000000 in
set_option maxRecDepth 100000 in
theorem kX10_row_4 (l : Launch) (D : va_G) (cB cI cJ cZ cT cR : ClassId) (a0 a1 a2 a3 a4 a5 a6 a7 a8 a9 a10 a11 a12 a13 a14 a15 a16 a17 a18 : Nat) (x0 : Int32) (x1 : Int32) (hy0 : 0 ≤ x0 ∧ x0 ≤ 3) (hy1 : ¬ (60 < x1)) (hy2 : ¬ (x1 < 0)) (sz : Nat) : Met l yX10_row (uc yX10_row cX10_row 5 (some .int)) (rmL 3 0 0) (va_Pc [.ref a0, .int 2, .int x0, .int x1] (MPre D [(cB, .byte), (cI, .int), (cJ, .long), (cZ, .boolean), (cT, .object RX7), (cR, .object RX3)] [(a0, .inr (10, [.int 0, .ref a1, .ref a2, .ref a3, .ref a4, .ref a5, .int 0, .int 0, .int 0, .int 0, .int 0, .long 0, .int 0, .int 0, .int 0, .int (-1), .ref a6, .ref a7, .ref a8, .ref a9, .ref a10, .ref a11, .ref a12, .ref a13, .int 0, .int 0, .ref a14, .ref a15, .int 0, .int 0, .int 0, .ref a16, .ref a17, .int 0, .int 0, .int 0, .int 0, .int 0, .ref a18, .int 0, .int 0, .int 0])), (a1, .inl (cI, 4, .inl (fun _ => (-1)))), (a2, .inl (cI, 4, .inl (fun _ => 0))), (a3, .inl (cJ, 240, .inr (.inl (fun _ => 0))))] sz)) (va_Qi (fun (r : Int32) (_ : (Nat → Int32) × (Nat → Int32)) => r = 0) (MB D [(cB, .byte), (cI, .int), (cJ, .long), (cZ, .boolean), (cT, .object RX7), (cR, .object RX3)] [(a0, .inr (10, [.int 0, .ref a1, .ref a2, .ref a3, .ref a4, .ref a5, .int 0, .int 0, .int 0, .int 0, .int 0, .long 0, .int 0, .int 0, .int 0, .int (-1), .ref a6, .ref a7, .ref a8, .ref a9, .ref a10, .ref a11, .ref a12, .ref a13, .int 0, .int 0, .ref a14, .ref a15, .int 0, .int 0, .int 0, .ref a16, .ref a17, .int 0, .int 0, .int 0, .int 0, .int 0, .ref a18, .int 0, .int 0, .int 0])), (a1, .inl (cI, 4, .inl (fun _ => (-1)))), (a2, .inl (cI, 4, .inl (fun _ => 0))), (a3, .inl (cJ, 240, .inr (.inl (fun _ => 0))))] sz (fun (u : (Nat → Int32) × (Nat → Int32)) => [(a0, .inr (10, [.int 0, .ref a1, .ref a2, .ref a3, .ref a4, .ref a5, .int 0, .int 0, .int 0, .int 0, .int 0, .long 0, .int 0, .int 0, .int 0, .int (-1), .ref a6, .ref a7, .ref a8, .ref a9, .ref a10, .ref a11, .ref a12, .ref a13, .int 0, .int 0, .ref a14, .ref a15, .int 0, .int 0, .int 0, .ref a16, .ref a17, .int 0, .int 0, .int 0, .int 0, .int 0, .ref a18, .int 0, .int 0, .int 0])), (a1, .inl (cI, 4, .inl (u.1))), (a2, .inl (cI, 4, .inl (u.2))), (a3, .inl (cJ, 240, .inr (.inl (fun _ => 0))))])) (va_A [(a0, .inr (10, [.int 0, .ref a1, .ref a2, .ref a3, .ref a4, .ref a5, .int 0, .int 0, .int 0, .int 0, .int 0, .long 0, .int 0, .int 0, .int 0, .int (-1), .ref a6, .ref a7, .ref a8, .ref a9, .ref a10, .ref a11, .ref a12, .ref a13, .int 0, .int 0, .ref a14, .ref a15, .int 0, .int 0, .int 0, .ref a16, .ref a17, .int 0, .int 0, .int 0, .int 0, .int 0, .ref a18, .int 0, .int 0, .int 0])), (a1, .inl (cI, 4, .inl (fun _ => (-1)))), (a2, .inl (cI, 4, .inl (fun _ => 0))), (a3, .inl (cJ, 240, .inr (.inl (fun _ => 0))))] sz)) 0 0 (va_A [(a0, .inr (10, [.int 0, .ref a1, .ref a2, .ref a3, .ref a4, .ref a5, .int 0, .int 0, .int 0, .int 0, .int 0, .long 0, .int 0, .int 0, .int 0, .int (-1), .ref a6, .ref a7, .ref a8, .ref a9, .ref a10, .ref a11, .ref a12, .ref a13, .int 0, .int 0, .ref a14, .ref a15, .int 0, .int 0, .int 0, .ref a16, .ref a17, .int 0, .int 0, .int 0, .int 0, .int 0, .ref a18, .int 0, .int 0, .int 0])), (a1, .inl (cI, 4, .inl (fun _ => (-1)))), (a2, .inl (cI, 4, .inl (fun _ => 0))), (a3, .inl (cJ, 240, .inr (.inl (fun _ => 0))))] sz) := by
  refine pm (by decide) (Nat.le_of_ble_eq_true rfl) ?_
  intro p e s m below meth c ls hx hb hr hml hown hlk hnm hts hv hl
  have hown : s.vm.findClass RX10 = some m.cls := hown
  have hl : lv_has ls 5 [(0, .ref a0), (1, .int 2), (2, .int x0), (3, .int x1)] := hl
  obtain ⟨hsz, hP, hK, hD0, hE⟩ := hv
  subst hsz
  have hD := hD0.self (sz := s.heap.size)
  obtain ⟨AA, hAe⟩ : ∃ AA, AA = va_A [(a0, .inr (10, [.int 0, .ref a1, .ref a2, .ref a3, .ref a4, .ref a5, .int 0, .int 0, .int 0, .int 0, .int 0, .long 0, .int 0, .int 0, .int 0, .int (-1), .ref a6, .ref a7, .ref a8, .ref a9, .ref a10, .ref a11, .ref a12, .ref a13, .int 0, .int 0, .ref a14, .ref a15, .int 0, .int 0, .int 0, .ref a16, .ref a17, .int 0, .int 0, .int 0, .int 0, .int 0, .ref a18, .int 0, .int 0, .int 0])), (a1, .inl (cI, 4, .inl (fun _ => (-1)))), (a2, .inl (cI, 4, .inl (fun _ => 0))), (a3, .inl (cJ, 240, .inr (.inl (fun _ => 0))))] s.heap.size := ⟨_, rfl⟩
  rw [← hAe] at hD
  have hA : ∀ q : Nat, s.heap.size ≤ q → AA q := fun q h => by rw [hAe]; exact Or.inr h
  have hS : va_S AA s.heap s.heap [] := va_S.rf
  obtain ⟨-, hAOT, hAOR, hAOI⟩ := id hE
  refine lv_aload_n hx hb dX10_row_0 rfl (lv_at hl 0 rfl) ?_
  refine lv_iconst (v := 0) hx hb dX10_row_1 (by decide) ?_
  refine va_put (D := D) (ci := 10) (v := .int 0) (ty := .int) (C := RX10) (T := TX10) (N := 42) hx hb hts (fun w h => uc_in w (inX10 w h)) tyX10 tyX10_ok nmX10 hown hK hP hD hS 0 rfl rfl 0 (by decide) (hts _ (uc_in _ q_f1188)) (fun _ h9 => h9) rfl (by decide +kernel) rfl rfl (Nat.le_of_ble_eq_true rfl) dX10_row_2 (fun H locs hP hD hS => ?_)
  have hP : va_P D vwCl [(a0, .inr (10, [.int 0, .ref a1, .ref a2, .ref a3, .ref a4, .ref a5, .int 0, .int 0, .int 0, .int 0, .int 0, .long 0, .int 0, .int 0, .int 0, .int (-1), .ref a6, .ref a7, .ref a8, .ref a9, .ref a10, .ref a11, .ref a12, .ref a13, .int 0, .int 0, .ref a14, .ref a15, .int 0, .int 0, .int 0, .ref a16, .ref a17, .int 0, .int 0, .int 0, .int 0, .int 0, .ref a18, .int 0, .int 0, .int 0])), (a1, .inl (cI, 4, .inl (fun _ => (-1)))), (a2, .inl (cI, 4, .inl (fun _ => 0))), (a3, .inl (cJ, 240, .inr (.inl (fun _ => 0))))] H := hP
  have hD : va_D AA [(a0, .inr (10, [.int 0, .ref a1, .ref a2, .ref a3, .ref a4, .ref a5, .int 0, .int 0, .int 0, .int 0, .int 0, .long 0, .int 0, .int 0, .int 0, .int (-1), .ref a6, .ref a7, .ref a8, .ref a9, .ref a10, .ref a11, .ref a12, .ref a13, .int 0, .int 0, .ref a14, .ref a15, .int 0, .int 0, .int 0, .ref a16, .ref a17, .int 0, .int 0, .int 0, .int 0, .int 0, .ref a18, .int 0, .int 0, .int 0])), (a1, .inl (cI, 4, .inl (fun _ => (-1)))), (a2, .inl (cI, 4, .inl (fun _ => 0))), (a3, .inl (cJ, 240, .inr (.inl (fun _ => 0))))] := hD
  refine lv_iload_n hx hb dX10_row_5 rfl (lv_at hl 1 rfl) ?_
  refine csR (n := 1) (As := [.int 2]) (rest := []) ⟨hx, hb, hml, hown, hts⟩ uc_in (kX10_isSlot_4 l D cB cI cJ cZ cT cR ) q_m1320 q_s1321 q_i11 q_c1322 (by decide +kernel) ⟨(Nat.le_of_ble_eq_true rfl), (Nat.le_of_ble_eq_true rfl)⟩ ⟨(Nat.le_of_ble_eq_true rfl), (Nat.le_of_ble_eq_true rfl)⟩ hK (hP.sub (ws' := []) [] rfl) rfl hl.1 rfl (Nat.le_of_ble_eq_true rfl) dX10_row_6 ?_
  refine lv_if_eq (tgt := 30) hx hb dX10_row_9 (by decide) (fun c9 => absurd c9 (by decide)) (fun _ => ?_)
  refine lv_iload_n hx hb dX10_row_12 rfl (lv_at hl 2 rfl) ?_
  refine lv_i2l (v := x0.toInt64) hx hb dX10_row_13 rfl ?_
  refine lv_lconst (v := 0) hx hb dX10_row_14 (by decide) ?_
  refine lv_ldc2 (v := 3) hx hb hown (hts _ (uc_in _ q_k1323)) dX10_row_15 ?_
  refine csR (n := 3) (As := [.long x0.toInt64, .long 0, .long 3]) (rest := []) ⟨hx, hb, hml, hown, hts⟩ uc_in (k_in l D [(cB, .byte), (cI, .int), (cJ, .long), (cZ, .boolean), (cT, .object RX7), (cR, .object RX3)] x0.toInt64 0 3 1 (if_pos ((in64 (x := x0) (lo := 0) (hi := 3) (by decide) (by decide)).mpr hy0)).symm) q_m1324 q_s1325 q_i11 q_c1326 (by decide +kernel) ⟨(Nat.le_of_ble_eq_true rfl), (Nat.le_of_ble_eq_true rfl)⟩ ⟨(Nat.le_of_ble_eq_true rfl), (Nat.le_of_ble_eq_true rfl)⟩ hK (hP.sub (ws' := []) [] rfl) rfl hl.1 rfl (Nat.le_of_ble_eq_true rfl) dX10_row_18 ?_
  refine lv_if_eq (tgt := 30) hx hb dX10_row_21 (by decide) (fun c9 => absurd c9 (by decide)) (fun _ => ?_)
  refine lv_iload_n hx hb dX10_row_24 rfl (lv_at hl 3 rfl) ?_
  refine lv_bipush (v := 60) hx hb dX10_row_25 (by decide) ?_
  refine lv_icmp_le (tgt := 33) hx hb dX10_row_27 (by decide) (fun _ => ?_) (fun c9 => absurd (Int32.not_lt.mp hy1) c9)
  refine lv_iload_n hx hb dX10_row_33 rfl (lv_at hl 3 rfl) ?_
  refine lv_if_ge (tgt := 40) hx hb dX10_row_34 (by decide) (fun _ => ?_) (fun c9 => absurd (Int32.not_lt.mp hy2) c9)
  refine lv_aload_n hx hb dX10_row_40 rfl (lv_at hl 0 rfl) ?_
  refine va_get (D := D) (ci := 10) (v := .ref a1) (C := RX10) (T := TX10) (N := 42) hx hb hts (fun w h => uc_in w (inX10 w h)) hown hK hP 0 rfl rfl 1 (by decide) (hts _ (uc_in _ q_f1189)) (fun _ h9 => h9) rfl dX10_row_41 ?_
  refine lv_iload_n hx hb dX10_row_44 rfl (lv_at hl 1 rfl) ?_
  refine lv_iload_n hx hb dX10_row_45 rfl (lv_at hl 2 rfl) ?_
  refine va_iast hx hb hK hP hD hS 1 1 rfl rfl (vp_in_iff.mpr ⟨by decide, by decide⟩) dX10_row_46 (fun H locs hP hD hS => ?_)
  obtain ⟨f1, ef1⟩ : ∃ f9, f9 = upd (fun _ => (-1)) 2.toNatClampNeg x0 := ⟨_, rfl⟩
  rw [← ef1] at hP hD
  have hP : va_P D vwCl [(a0, .inr (10, [.int 0, .ref a1, .ref a2, .ref a3, .ref a4, .ref a5, .int 0, .int 0, .int 0, .int 0, .int 0, .long 0, .int 0, .int 0, .int 0, .int (-1), .ref a6, .ref a7, .ref a8, .ref a9, .ref a10, .ref a11, .ref a12, .ref a13, .int 0, .int 0, .ref a14, .ref a15, .int 0, .int 0, .int 0, .ref a16, .ref a17, .int 0, .int 0, .int 0, .int 0, .int 0, .ref a18, .int 0, .int 0, .int 0])), (a1, .inl (cI, 4, .inl f1)), (a2, .inl (cI, 4, .inl (fun _ => 0))), (a3, .inl (cJ, 240, .inr (.inl (fun _ => 0))))] H := hP
  have hD : va_D AA [(a0, .inr (10, [.int 0, .ref a1, .ref a2, .ref a3, .ref a4, .ref a5, .int 0, .int 0, .int 0, .int 0, .int 0, .long 0, .int 0, .int 0, .int 0, .int (-1), .ref a6, .ref a7, .ref a8, .ref a9, .ref a10, .ref a11, .ref a12, .ref a13, .int 0, .int 0, .ref a14, .ref a15, .int 0, .int 0, .int 0, .ref a16, .ref a17, .int 0, .int 0, .int 0, .int 0, .int 0, .ref a18, .int 0, .int 0, .int 0])), (a1, .inl (cI, 4, .inl f1)), (a2, .inl (cI, 4, .inl (fun _ => 0))), (a3, .inl (cJ, 240, .inr (.inl (fun _ => 0))))] := hD
  refine lv_aload_n hx hb dX10_row_47 rfl (lv_at hl 0 rfl) ?_
  refine va_get (D := D) (ci := 10) (v := .ref a2) (C := RX10) (T := TX10) (N := 42) hx hb hts (fun w h => uc_in w (inX10 w h)) hown hK hP 0 rfl rfl 2 (by decide) (hts _ (uc_in _ q_f1190)) (fun _ h9 => h9) rfl dX10_row_48 ?_
  refine lv_iload_n hx hb dX10_row_51 rfl (lv_at hl 1 rfl) ?_
  refine lv_iload_n hx hb dX10_row_52 rfl (lv_at hl 3 rfl) ?_
  refine va_iast hx hb hK hP hD hS 2 1 rfl rfl (vp_in_iff.mpr ⟨by decide, by decide⟩) dX10_row_53 (fun H locs hP hD hS => ?_)
  obtain ⟨f2, ef2⟩ : ∃ f9, f9 = upd (fun _ => 0) 2.toNatClampNeg x1 := ⟨_, rfl⟩
  rw [← ef2] at hP hD
  have hP : va_P D vwCl [(a0, .inr (10, [.int 0, .ref a1, .ref a2, .ref a3, .ref a4, .ref a5, .int 0, .int 0, .int 0, .int 0, .int 0, .long 0, .int 0, .int 0, .int 0, .int (-1), .ref a6, .ref a7, .ref a8, .ref a9, .ref a10, .ref a11, .ref a12, .ref a13, .int 0, .int 0, .ref a14, .ref a15, .int 0, .int 0, .int 0, .ref a16, .ref a17, .int 0, .int 0, .int 0, .int 0, .int 0, .ref a18, .int 0, .int 0, .int 0])), (a1, .inl (cI, 4, .inl f1)), (a2, .inl (cI, 4, .inl f2)), (a3, .inl (cJ, 240, .inr (.inl (fun _ => 0))))] H := hP
  have hD : va_D AA [(a0, .inr (10, [.int 0, .ref a1, .ref a2, .ref a3, .ref a4, .ref a5, .int 0, .int 0, .int 0, .int 0, .int 0, .long 0, .int 0, .int 0, .int 0, .int (-1), .ref a6, .ref a7, .ref a8, .ref a9, .ref a10, .ref a11, .ref a12, .ref a13, .int 0, .int 0, .ref a14, .ref a15, .int 0, .int 0, .int 0, .ref a16, .ref a17, .int 0, .int 0, .int 0, .int 0, .int 0, .ref a18, .int 0, .int 0, .int 0])), (a1, .inl (cI, 4, .inl f1)), (a2, .inl (cI, 4, .inl f2)), (a3, .inl (cJ, 240, .inr (.inl (fun _ => 0))))] := hD
  refine lv_iconst (v := 0) hx hb dX10_row_54 (by decide) ?_
  refine lv_istore (lv' := [(4, .int 0), (0, .ref a0), (1, .int 2), (2, .int x0), (3, .int x1)]) hx hb dX10_row_55 hl (by decide) rfl (fun ls hl => ?_)
  obtain ⟨N, hN, hNe⟩ := nI_of2 (M := 60) (n := 60) (by decide) hy2 (Int32.not_lt.mp hy1)
  subst hNe
  refine lp_X10_row_443 hx hb uc_in hts hown hK hN (fun H locs ls hP hD hS hl => ?_) N 0 (by omega) H locs ls hP hD hS hl
  have hP : va_P D vwCl [(a0, .inr (10, [.int 0, .ref a1, .ref a2, .ref a3, .ref a4, .ref a5, .int 0, .int 0, .int 0, .int 0, .int 0, .long 0, .int 0, .int 0, .int 0, .int (-1), .ref a6, .ref a7, .ref a8, .ref a9, .ref a10, .ref a11, .ref a12, .ref a13, .int 0, .int 0, .ref a14, .ref a15, .int 0, .int 0, .int 0, .ref a16, .ref a17, .int 0, .int 0, .int 0, .int 0, .int 0, .ref a18, .int 0, .int 0, .int 0])), (a1, .inl (cI, 4, .inl f1)), (a2, .inl (cI, 4, .inl f2)), (a3, .inl (cJ, 240, .inr (.inl (fun _ => 0))))] H := hP
  have hD : va_D AA [(a0, .inr (10, [.int 0, .ref a1, .ref a2, .ref a3, .ref a4, .ref a5, .int 0, .int 0, .int 0, .int 0, .int 0, .long 0, .int 0, .int 0, .int 0, .int (-1), .ref a6, .ref a7, .ref a8, .ref a9, .ref a10, .ref a11, .ref a12, .ref a13, .int 0, .int 0, .ref a14, .ref a15, .int 0, .int 0, .int 0, .ref a16, .ref a17, .int 0, .int 0, .int 0, .int 0, .int 0, .ref a18, .int 0, .int 0, .int 0])), (a1, .inl (cI, 4, .inl f1)), (a2, .inl (cI, 4, .inl f2)), (a3, .inl (cJ, 240, .inr (.inl (fun _ => 0))))] := hD
  refine lv_iconst (v := 0) hx hb dX10_row_82 (by decide) ?_
  subst hAe
  have hP9 := hP.sub (ws' := [(a0, .inr (10, [.int 0, .ref a1, .ref a2, .ref a3, .ref a4, .ref a5, .int 0, .int 0, .int 0, .int 0, .int 0, .long 0, .int 0, .int 0, .int 0, .int (-1), .ref a6, .ref a7, .ref a8, .ref a9, .ref a10, .ref a11, .ref a12, .ref a13, .int 0, .int 0, .ref a14, .ref a15, .int 0, .int 0, .int 0, .ref a16, .ref a17, .int 0, .int 0, .int 0, .int 0, .int 0, .ref a18, .int 0, .int 0, .int 0])), (a1, .inl (cI, 4, .inl f1)), (a2, .inl (cI, 4, .inl f2)), (a3, .inl (cJ, 240, .inr (.inl (fun _ => 0))))]) [0, 1, 2, 3] rfl
  have hD9 := hD.sub (ws' := [(a0, .inr (10, [.int 0, .ref a1, .ref a2, .ref a3, .ref a4, .ref a5, .int 0, .int 0, .int 0, .int 0, .int 0, .long 0, .int 0, .int 0, .int 0, .int (-1), .ref a6, .ref a7, .ref a8, .ref a9, .ref a10, .ref a11, .ref a12, .ref a13, .int 0, .int 0, .ref a14, .ref a15, .int 0, .int 0, .int 0, .ref a16, .ref a17, .int 0, .int 0, .int 0, .int 0, .int 0, .ref a18, .int 0, .int 0, .int 0])), (a1, .inl (cI, 4, .inl f1)), (a2, .inl (cI, 4, .inl f2)), (a3, .inl (cJ, 240, .inr (.inl (fun _ => 0))))]) [0, 1, 2, 3] rfl rfl
  exact W.iret hx hb hr (fun t ht hW => ⟨⟨0, (f1, f2), rfl, rfl, by rw [ht]; exact hP9, va_K.moved hW.alike hK, hD9⟩, hS.F ht⟩) hS.2.2 dX10_row_83
set_option maxHeartbeats 4000000 in
set_option maxRecDepth 100000 in
theorem kX9_isSlot_5 (l : Launch) (D : va_G) (cB cI cJ cZ cT cR : ClassId) : Met l yX9_isSlot (uc yX9_isSlot cX9_isSlot 1 (some .boolean)) (rmL 2 0 0) (va_Pc [.int 3] (RPre D [(cB, .byte), (cI, .int), (cJ, .long), (cZ, .boolean), (cT, .object RX7), (cR, .object RX3)] [])) (QcRead 1) 0 0 (fun _ => False) := by
  refine pm (by decide) (Nat.le_of_ble_eq_true rfl) ?_
  intro p e s m below meth c ls hx hb hr hml hown hlk hnm hts hv hl
  have hown : s.vm.findClass RX9 = some m.cls := hown
  have hl : lv_has ls 1 [(0, .int 3)] := hl
  obtain ⟨hP, hK⟩ := hv
  refine lv_iload_n hx hb dX9_isSlot_0 rfl (lv_at hl 0 rfl) ?_
  refine lv_iconst (v := 0) hx hb dX9_isSlot_1 (by decide) ?_
  refine lv_iconst (v := 3) hx hb dX9_isSlot_2 (by decide) ?_
  refine csR (n := 3) (As := [.int 3, .int 0, .int 3]) (rest := []) ⟨hx, hb, hml, hown, hts⟩ uc_in (k_isWithin l D [(cB, .byte), (cI, .int), (cJ, .long), (cZ, .boolean), (cT, .object RX7), (cR, .object RX3)] 3 0 3 1 (if_pos (by decide)).symm) q_m651 q_s652 q_i1 q_c653 (by decide +kernel) ⟨(Nat.le_of_ble_eq_true rfl), (Nat.le_of_ble_eq_true rfl)⟩ ⟨(Nat.le_of_ble_eq_true rfl), (Nat.le_of_ble_eq_true rfl)⟩ hK (hP.sub (ws' := []) [] rfl) rfl hl.1 rfl (Nat.le_of_ble_eq_true rfl) dX9_isSlot_3 ?_
  exact W.zret hx hb hr rfl (fun t ht _ => ⟨rfl, ht⟩) (fun _ h => by cases h) dX9_isSlot_6
set_option maxHeartbeats 4000000 in
set_option maxRecDepth 100000 in
theorem kX9_row_5 (l : Launch) (D : va_G) (cB cI cJ cZ cT cR : ClassId) (a0 a1 a2 a3 a4 a5 a6 a7 a8 a9 a10 a11 a12 a13 a14 a15 a16 : Nat) (x0 : Int32) (x1 : Int32) (hy0 : 0 ≤ x0 ∧ x0 ≤ 3) (hy1 : ¬ (60 < x1)) (hy2 : ¬ (x1 < 0)) (sz : Nat) : Met l yX9_row (uc yX9_row cX9_row 4 (some .int)) (rmL 3 0 0) (va_Pc [.ref a0, .int 3, .int x0, .int x1] (MPre D [(cB, .byte), (cI, .int), (cJ, .long), (cZ, .boolean), (cT, .object RX7), (cR, .object RX3)] [(a0, .inr (9, [.ref a4, .ref a5, .ref a6, .ref a7, .int 0, .ref a8, .ref a1, .ref a9, .ref a10, .ref a11, .ref a12, .ref a13])), (a1, .inl (cR, 4, .inr (.inr (.inr (.inr (va_up (va_up (va_up (va_up (fun _ => none) 0 (some a14)) 1 (some a15)) 2 (some a16)) 3 (some a2))))))), (a2, .inr (3, [.int (-1), .int 0, .ref a3])), (a3, .inl (cJ, 60, .inr (.inl (fun _ => 0))))] sz)) (va_Qi (fun (r : Int32) (_ : Unit) => r = 0) (MB D [(cB, .byte), (cI, .int), (cJ, .long), (cZ, .boolean), (cT, .object RX7), (cR, .object RX3)] [(a0, .inr (9, [.ref a4, .ref a5, .ref a6, .ref a7, .int 0, .ref a8, .ref a1, .ref a9, .ref a10, .ref a11, .ref a12, .ref a13])), (a1, .inl (cR, 4, .inr (.inr (.inr (.inr (va_up (va_up (va_up (va_up (fun _ => none) 0 (some a14)) 1 (some a15)) 2 (some a16)) 3 (some a2))))))), (a2, .inr (3, [.int (-1), .int 0, .ref a3])), (a3, .inl (cJ, 60, .inr (.inl (fun _ => 0))))] sz (fun (u : Unit) => [(a0, .inr (9, [.ref a4, .ref a5, .ref a6, .ref a7, .int 0, .ref a8, .ref a1, .ref a9, .ref a10, .ref a11, .ref a12, .ref a13])), (a1, .inl (cR, 4, .inr (.inr (.inr (.inr (va_up (va_up (va_up (va_up (fun _ => none) 0 (some a14)) 1 (some a15)) 2 (some a16)) 3 (some a2))))))), (a2, .inr (3, [.int x1, .int x0, .ref a3])), (a3, .inl (cJ, 60, .inr (.inl (fun _ => 0))))])) (va_A [(a0, .inr (9, [.ref a4, .ref a5, .ref a6, .ref a7, .int 0, .ref a8, .ref a1, .ref a9, .ref a10, .ref a11, .ref a12, .ref a13])), (a1, .inl (cR, 4, .inr (.inr (.inr (.inr (va_up (va_up (va_up (va_up (fun _ => none) 0 (some a14)) 1 (some a15)) 2 (some a16)) 3 (some a2))))))), (a2, .inr (3, [.int (-1), .int 0, .ref a3])), (a3, .inl (cJ, 60, .inr (.inl (fun _ => 0))))] sz)) 0 0 (va_A [(a0, .inr (9, [.ref a4, .ref a5, .ref a6, .ref a7, .int 0, .ref a8, .ref a1, .ref a9, .ref a10, .ref a11, .ref a12, .ref a13])), (a1, .inl (cR, 4, .inr (.inr (.inr (.inr (va_up (va_up (va_up (va_up (fun _ => none) 0 (some a14)) 1 (some a15)) 2 (some a16)) 3 (some a2))))))), (a2, .inr (3, [.int (-1), .int 0, .ref a3])), (a3, .inl (cJ, 60, .inr (.inl (fun _ => 0))))] sz) := by
  refine pm (by decide) (Nat.le_of_ble_eq_true rfl) ?_
  intro p e s m below meth c ls hx hb hr hml hown hlk hnm hts hv hl
  have hown : s.vm.findClass RX9 = some m.cls := hown
  have hl : lv_has ls 4 [(0, .ref a0), (1, .int 3), (2, .int x0), (3, .int x1)] := hl
  obtain ⟨hsz, hP, hK, hD0, hE⟩ := hv
  subst hsz
  have hD := hD0.self (sz := s.heap.size)
  obtain ⟨AA, hAe⟩ : ∃ AA, AA = va_A [(a0, .inr (9, [.ref a4, .ref a5, .ref a6, .ref a7, .int 0, .ref a8, .ref a1, .ref a9, .ref a10, .ref a11, .ref a12, .ref a13])), (a1, .inl (cR, 4, .inr (.inr (.inr (.inr (va_up (va_up (va_up (va_up (fun _ => none) 0 (some a14)) 1 (some a15)) 2 (some a16)) 3 (some a2))))))), (a2, .inr (3, [.int (-1), .int 0, .ref a3])), (a3, .inl (cJ, 60, .inr (.inl (fun _ => 0))))] s.heap.size := ⟨_, rfl⟩
  rw [← hAe] at hD
  have hA : ∀ q : Nat, s.heap.size ≤ q → AA q := fun q h => by rw [hAe]; exact Or.inr h
  have hS : va_S AA s.heap s.heap [] := va_S.rf
  obtain ⟨-, hAOT, hAOR, hAOI⟩ := id hE
  refine lv_iload_n hx hb dX9_row_0 rfl (lv_at hl 1 rfl) ?_
  refine csR (n := 1) (As := [.int 3]) (rest := []) ⟨hx, hb, hml, hown, hts⟩ uc_in (kX9_isSlot_5 l D cB cI cJ cZ cT cR ) q_m911 q_s912 q_i1 q_c913 (by decide +kernel) ⟨(Nat.le_of_ble_eq_true rfl), (Nat.le_of_ble_eq_true rfl)⟩ ⟨(Nat.le_of_ble_eq_true rfl), (Nat.le_of_ble_eq_true rfl)⟩ hK (hP.sub (ws' := []) [] rfl) rfl hl.1 rfl (Nat.le_of_ble_eq_true rfl) dX9_row_1 ?_
  refine lv_if_eq (tgt := 22) hx hb dX9_row_4 (by decide) (fun c9 => absurd c9 (by decide)) (fun _ => ?_)
  refine lv_iload_n hx hb dX9_row_7 rfl (lv_at hl 2 rfl) ?_
  refine lv_iconst (v := 0) hx hb dX9_row_8 (by decide) ?_
  refine lv_iconst (v := 3) hx hb dX9_row_9 (by decide) ?_
  refine csR (n := 3) (As := [.int x0, .int 0, .int 3]) (rest := []) ⟨hx, hb, hml, hown, hts⟩ uc_in (k_isWithin l D [(cB, .byte), (cI, .int), (cJ, .long), (cZ, .boolean), (cT, .object RX7), (cR, .object RX3)] x0 0 3 1 (if_pos hy0).symm) q_m651 q_s652 q_i1 q_c653 (by decide +kernel) ⟨(Nat.le_of_ble_eq_true rfl), (Nat.le_of_ble_eq_true rfl)⟩ ⟨(Nat.le_of_ble_eq_true rfl), (Nat.le_of_ble_eq_true rfl)⟩ hK (hP.sub (ws' := []) [] rfl) rfl hl.1 rfl (Nat.le_of_ble_eq_true rfl) dX9_row_10 ?_
  refine lv_if_eq (tgt := 22) hx hb dX9_row_13 (by decide) (fun c9 => absurd c9 (by decide)) (fun _ => ?_)
  refine lv_iload_n hx hb dX9_row_16 rfl (lv_at hl 3 rfl) ?_
  refine lv_bipush (v := 60) hx hb dX9_row_17 (by decide) ?_
  refine lv_icmp_le (tgt := 25) hx hb dX9_row_19 (by decide) (fun _ => ?_) (fun c9 => absurd (Int32.not_lt.mp hy1) c9)
  refine lv_iload_n hx hb dX9_row_25 rfl (lv_at hl 3 rfl) ?_
  refine lv_if_ge (tgt := 32) hx hb dX9_row_26 (by decide) (fun _ => ?_) (fun c9 => absurd (Int32.not_lt.mp hy2) c9)
  refine lv_aload_n hx hb dX9_row_32 rfl (lv_at hl 0 rfl) ?_
  refine va_get (D := D) (ci := 9) (v := .ref a1) (C := RX9) (T := TX9) (N := 12) hx hb hts (fun w h => uc_in w (inX9 w h)) hown hK hP 0 rfl rfl 6 (by decide) (hts _ (uc_in _ q_f389)) (fun _ h9 => h9) rfl dX9_row_33 ?_
  refine lv_iload_n hx hb dX9_row_36 rfl (lv_at hl 1 rfl) ?_
  refine va_aldq hx hb hK hP 1 5 rfl rfl (vp_in_iff.mpr ⟨by decide, by decide⟩) dX9_row_37 ?_
  refine pv_v (v := .ref a2) rfl ?_
  refine lv_iload_n hx hb dX9_row_38 rfl (lv_at hl 2 rfl) ?_
  refine lv_iload_n hx hb dX9_row_39 rfl (lv_at hl 3 rfl) ?_
  refine cvV (n := 2) (As := [.int x0, .int x1]) (rest := []) (wr := [(a0, .inr (9, [.ref a4, .ref a5, .ref a6, .ref a7, .int 0, .ref a8, .ref a1, .ref a9, .ref a10, .ref a11, .ref a12, .ref a13])), (a1, .inl (cR, 4, .inr (.inr (.inr (.inr (va_up (va_up (va_up (va_up (fun _ => none) 0 (some a14)) 1 (some a15)) 2 (some a16)) 3 (some a2)))))))]) ⟨hx, hb, hml, hown, hts⟩ uc_in (kX3_begin_0 l D cB cI cJ cZ cT cR a2 a3 x0 x1 H.size) q_m1162 q_n1163 q_e1164 q_i5 q_c1165 (by decide +kernel) ⟨(Nat.le_of_ble_eq_true rfl), (Nat.le_of_ble_eq_true rfl)⟩ ⟨(Nat.le_of_ble_eq_true rfl), (Nat.le_of_ble_eq_true rfl)⟩ hE hK hP hD hS hA [2, 3] [0, 1] rfl rfl rfl rfl (by decide) 3 0 rfl rfl rfl hl.1 rfl (Nat.le_of_ble_eq_true rfl) dX9_row_40 (fun u H locs hpo hP hD hS => ?_)
  have hP : va_P D vwCl [(a0, .inr (9, [.ref a4, .ref a5, .ref a6, .ref a7, .int 0, .ref a8, .ref a1, .ref a9, .ref a10, .ref a11, .ref a12, .ref a13])), (a1, .inl (cR, 4, .inr (.inr (.inr (.inr (va_up (va_up (va_up (va_up (fun _ => none) 0 (some a14)) 1 (some a15)) 2 (some a16)) 3 (some a2))))))), (a2, .inr (3, [.int x1, .int x0, .ref a3])), (a3, .inl (cJ, 60, .inr (.inl (fun _ => 0))))] H := hP
  have hD : va_D AA [(a0, .inr (9, [.ref a4, .ref a5, .ref a6, .ref a7, .int 0, .ref a8, .ref a1, .ref a9, .ref a10, .ref a11, .ref a12, .ref a13])), (a1, .inl (cR, 4, .inr (.inr (.inr (.inr (va_up (va_up (va_up (va_up (fun _ => none) 0 (some a14)) 1 (some a15)) 2 (some a16)) 3 (some a2))))))), (a2, .inr (3, [.int x1, .int x0, .ref a3])), (a3, .inl (cJ, 60, .inr (.inl (fun _ => 0))))] := hD
  refine W.cs (cells' := 0) (slots' := 0) rfl rfl ?_
  refine lv_iconst (v := 0) hx hb dX9_row_43 (by decide) ?_
  subst hAe
  have hP9 := hP.sub (ws' := [(a0, .inr (9, [.ref a4, .ref a5, .ref a6, .ref a7, .int 0, .ref a8, .ref a1, .ref a9, .ref a10, .ref a11, .ref a12, .ref a13])), (a1, .inl (cR, 4, .inr (.inr (.inr (.inr (va_up (va_up (va_up (va_up (fun _ => none) 0 (some a14)) 1 (some a15)) 2 (some a16)) 3 (some a2))))))), (a2, .inr (3, [.int x1, .int x0, .ref a3])), (a3, .inl (cJ, 60, .inr (.inl (fun _ => 0))))]) [0, 1, 2, 3] rfl
  have hD9 := hD.sub (ws' := [(a0, .inr (9, [.ref a4, .ref a5, .ref a6, .ref a7, .int 0, .ref a8, .ref a1, .ref a9, .ref a10, .ref a11, .ref a12, .ref a13])), (a1, .inl (cR, 4, .inr (.inr (.inr (.inr (va_up (va_up (va_up (va_up (fun _ => none) 0 (some a14)) 1 (some a15)) 2 (some a16)) 3 (some a2))))))), (a2, .inr (3, [.int x1, .int x0, .ref a3])), (a3, .inl (cJ, 60, .inr (.inl (fun _ => 0))))]) [0, 1, 2, 3] rfl rfl
  exact W.iret hx hb hr (fun t ht hW => ⟨⟨0, (), rfl, rfl, by rw [ht]; exact hP9, va_K.moved hW.alike hK, hD9⟩, hS.F ht⟩) hS.2.2 dX9_row_44
set_option maxHeartbeats 4000000 in
set_option maxRecDepth 100000 in
theorem kX10_isSlot_5 (l : Launch) (D : va_G) (cB cI cJ cZ cT cR : ClassId) : Met l yX10_isSlot (uc yX10_isSlot cX10_isSlot 1 (some .boolean)) (rmL 2 0 0) (va_Pc [.int 3] (RPre D [(cB, .byte), (cI, .int), (cJ, .long), (cZ, .boolean), (cT, .object RX7), (cR, .object RX3)] [])) (QcRead 1) 0 0 (fun _ => False) := by
  refine pm (by decide) (Nat.le_of_ble_eq_true rfl) ?_
  intro p e s m below meth c ls hx hb hr hml hown hlk hnm hts hv hl
  have hown : s.vm.findClass RX10 = some m.cls := hown
  have hl : lv_has ls 1 [(0, .int 3)] := hl
  obtain ⟨hP, hK⟩ := hv
  refine lv_iload_n hx hb dX10_isSlot_0 rfl (lv_at hl 0 rfl) ?_
  refine lv_i2l (v := 3) hx hb dX10_isSlot_1 (by decide) ?_
  refine lv_lconst (v := 0) hx hb dX10_isSlot_2 (by decide) ?_
  refine lv_ldc2 (v := 3) hx hb hown (hts _ (uc_in _ q_k1323)) dX10_isSlot_3 ?_
  refine csR (n := 3) (As := [.long 3, .long 0, .long 3]) (rest := []) ⟨hx, hb, hml, hown, hts⟩ uc_in (k_in l D [(cB, .byte), (cI, .int), (cJ, .long), (cZ, .boolean), (cT, .object RX7), (cR, .object RX3)] 3 0 3 1 (if_pos (by decide)).symm) q_m1324 q_s1325 q_i11 q_c1326 (by decide +kernel) ⟨(Nat.le_of_ble_eq_true rfl), (Nat.le_of_ble_eq_true rfl)⟩ ⟨(Nat.le_of_ble_eq_true rfl), (Nat.le_of_ble_eq_true rfl)⟩ hK (hP.sub (ws' := []) [] rfl) rfl hl.1 rfl (Nat.le_of_ble_eq_true rfl) dX10_isSlot_6 ?_
  exact W.zret hx hb hr rfl (fun t ht _ => ⟨rfl, ht⟩) (fun _ h => by cases h) dX10_isSlot_9
set_option maxHeartbeats 4000000 in
set_option maxRecDepth 100000 in
theorem lp_X10_row_448 {p : Program} {l : Launch} {e : Env} {R : Room} {s : State} {m : MethodId} {args : Array Value} {below : List Frame} {meth : Method} {c : Code} {cells slots : Nat} {Q : State → Prop} {D : va_G} {AA : Nat → Prop} {H0 : Heap} {Ts : List Cond} {cB cI cJ cZ cT cR : ClassId} {a0 : Nat} {a1 : Nat} {a10 : Nat} {a11 : Nat} {a12 : Nat} {a13 : Nat} {a14 : Nat} {a15 : Nat} {a16 : Nat} {a17 : Nat} {a18 : Nat} {a2 : Nat} {a3 : Nat} {a4 : Nat} {a5 : Nat} {a6 : Nat} {a7 : Nat} {a8 : Nat} {a9 : Nat} {x0 : Int32} {f1 : Nat → Int32} {f2 : Nat → Int32} {N : Nat} (hx : p.tables.exec = Jvm.exec) (hb : c.code = cX10_row) (hT : ∀ w ∈ uw, w ∈ Ts) (hts : ∀ w ∈ Ts, w.before args s = true) (hown : s.vm.findClass RX10 = some m.cls) (hK : va_K D vwCl [(cB, .byte), (cI, .int), (cJ, .long), (cZ, .boolean), (cT, .object RX7), (cR, .object RX3)] s) (hN : N ≤ 60)
    (kx : ∀ (H : Heap) (locs : List Loc) (ls : Array Slot), va_P D vwCl [(a0, .inr (10, [.int 0, .ref a1, .ref a2, .ref a3, .ref a4, .ref a5, .int 0, .int 0, .int 0, .int 0, .int 0, .long 0, .int 0, .int 0, .int 0, .int (-1), .ref a6, .ref a7, .ref a8, .ref a9, .ref a10, .ref a11, .ref a12, .ref a13, .int 0, .int 0, .ref a14, .ref a15, .int 0, .int 0, .int 0, .ref a16, .ref a17, .int 0, .int 0, .int 0, .int 0, .int 0, .ref a18, .int 0, .int 0, .int 0])), (a1, .inl (cI, 4, .inl f1)), (a2, .inl (cI, 4, .inl f2)), (a3, .inl (cJ, 240, .inr (.inl (fun _ => 0))))] H → va_D AA [(a0, .inr (10, [.int 0, .ref a1, .ref a2, .ref a3, .ref a4, .ref a5, .int 0, .int 0, .int 0, .int 0, .int 0, .long 0, .int 0, .int 0, .int 0, .int (-1), .ref a6, .ref a7, .ref a8, .ref a9, .ref a10, .ref a11, .ref a12, .ref a13, .int 0, .int 0, .ref a14, .ref a15, .int 0, .int 0, .int 0, .ref a16, .ref a17, .int 0, .int 0, .int 0, .int 0, .int 0, .ref a18, .int 0, .int 0, .int 0])), (a1, .inl (cI, 4, .inl f1)), (a2, .inl (cI, 4, .inl f2)), (a3, .inl (cJ, 240, .inr (.inl (fun _ => 0))))] → va_S AA H0 H locs → lv_has ls 5 [(4, .int (nI N)), (0, .ref a0), (1, .int 3), (2, .int x0), (3, .int (nI N))] → W p l e R s m args below meth c H locs cells slots Q (F0 m 82 ls [])) :
    ∀ (j k : Nat), k + j = N → ∀ (H : Heap) (locs : List Loc) (ls : Array Slot), va_P D vwCl [(a0, .inr (10, [.int 0, .ref a1, .ref a2, .ref a3, .ref a4, .ref a5, .int 0, .int 0, .int 0, .int 0, .int 0, .long 0, .int 0, .int 0, .int 0, .int (-1), .ref a6, .ref a7, .ref a8, .ref a9, .ref a10, .ref a11, .ref a12, .ref a13, .int 0, .int 0, .ref a14, .ref a15, .int 0, .int 0, .int 0, .ref a16, .ref a17, .int 0, .int 0, .int 0, .int 0, .int 0, .ref a18, .int 0, .int 0, .int 0])), (a1, .inl (cI, 4, .inl f1)), (a2, .inl (cI, 4, .inl f2)), (a3, .inl (cJ, 240, .inr (.inl (fun _ => 0))))] H → va_D AA [(a0, .inr (10, [.int 0, .ref a1, .ref a2, .ref a3, .ref a4, .ref a5, .int 0, .int 0, .int 0, .int 0, .int 0, .long 0, .int 0, .int 0, .int 0, .int (-1), .ref a6, .ref a7, .ref a8, .ref a9, .ref a10, .ref a11, .ref a12, .ref a13, .int 0, .int 0, .ref a14, .ref a15, .int 0, .int 0, .int 0, .ref a16, .ref a17, .int 0, .int 0, .int 0, .int 0, .int 0, .ref a18, .int 0, .int 0, .int 0])), (a1, .inl (cI, 4, .inl f1)), (a2, .inl (cI, 4, .inl f2)), (a3, .inl (cJ, 240, .inr (.inl (fun _ => 0))))] → va_S AA H0 H locs → lv_has ls 5 [(4, .int (nI k)), (0, .ref a0), (1, .int 3), (2, .int x0), (3, .int (nI N))] → W p l e R s m args below meth c H locs cells slots Q (F0 m 57 ls []) := by
  intro j
  induction j with
  | zero =>
    intro k hk H locs ls hP hD hS hl
    refine lv_iload hx hb dX10_row_57 (lv_at hl 0 rfl) ?_
    refine lv_iload_n hx hb dX10_row_59 rfl (lv_at hl 4 rfl) ?_
    refine lv_icmp_ge (tgt := 82) hx hb dX10_row_60 (by decide) (fun _ => ?_) (fun c9 => absurd (show (nI N) ≤ nI k from nI_le (a := N) (by omega) (by omega)) c9)
    have ek : k = N := by omega
    subst ek
    exact kx H locs ls hP hD hS hl
  | succ j ih =>
    intro k hk H locs ls hP hD hS hl
    refine lv_iload hx hb dX10_row_57 (lv_at hl 0 rfl) ?_
    refine lv_iload_n hx hb dX10_row_59 rfl (lv_at hl 4 rfl) ?_
    refine lv_icmp_ge (tgt := 82) hx hb dX10_row_60 (by decide) (fun c9 => absurd c9 (show ¬ (nI N) ≤ nI k from nI_ge (b := N) (by omega) (by omega))) (fun _ => ?_)
    refine lv_aload_n hx hb dX10_row_63 rfl (lv_at hl 1 rfl) ?_
    refine va_get (D := D) (ci := 10) (v := .ref a3) (C := RX10) (T := TX10) (N := 42) hx hb hts (fun w h => hT w (inX10 w h)) hown hK hP 0 rfl rfl 3 (by decide) (hts _ (hT _ q_f1191)) (fun _ h9 => h9) rfl dX10_row_64 ?_
    refine lv_bipush (v := 60) hx hb dX10_row_67 (by decide) ?_
    refine lv_iload_n hx hb dX10_row_69 rfl (lv_at hl 2 rfl) ?_
    refine lv_imul hx hb dX10_row_70 ?_
    refine pv_i (v := 180) (by decide) ?_
    refine lv_iload hx hb dX10_row_71 (lv_at hl 0 rfl) ?_
    refine lv_iadd hx hb dX10_row_73 ?_
    refine pv_i (v := (nI (180 + k))) (nI_add 180 k) ?_
    refine lv_lconst (v := 0) hx hb dX10_row_74 (by decide) ?_
    refine va_last hx hb hK hP hD hS 3 2 rfl rfl (vp_in_nI (by omega) (by decide)) dX10_row_75 (fun H locs hP hD hS => ?_)
    rw [updL0] at hP hD
    have hP : va_P D vwCl [(a0, .inr (10, [.int 0, .ref a1, .ref a2, .ref a3, .ref a4, .ref a5, .int 0, .int 0, .int 0, .int 0, .int 0, .long 0, .int 0, .int 0, .int 0, .int (-1), .ref a6, .ref a7, .ref a8, .ref a9, .ref a10, .ref a11, .ref a12, .ref a13, .int 0, .int 0, .ref a14, .ref a15, .int 0, .int 0, .int 0, .ref a16, .ref a17, .int 0, .int 0, .int 0, .int 0, .int 0, .ref a18, .int 0, .int 0, .int 0])), (a1, .inl (cI, 4, .inl f1)), (a2, .inl (cI, 4, .inl f2)), (a3, .inl (cJ, 240, .inr (.inl (fun _ => 0))))] H := hP
    have hD : va_D AA [(a0, .inr (10, [.int 0, .ref a1, .ref a2, .ref a3, .ref a4, .ref a5, .int 0, .int 0, .int 0, .int 0, .int 0, .long 0, .int 0, .int 0, .int 0, .int (-1), .ref a6, .ref a7, .ref a8, .ref a9, .ref a10, .ref a11, .ref a12, .ref a13, .int 0, .int 0, .ref a14, .ref a15, .int 0, .int 0, .int 0, .ref a16, .ref a17, .int 0, .int 0, .int 0, .int 0, .int 0, .ref a18, .int 0, .int 0, .int 0])), (a1, .inl (cI, 4, .inl f1)), (a2, .inl (cI, 4, .inl f2)), (a3, .inl (cJ, 240, .inr (.inl (fun _ => 0))))] := hD
    refine lv_iinc (v := (nI (k + 1))) (lv' := [(4, .int (nI (k + 1))), (0, .ref a0), (1, .int 3), (2, .int x0), (3, .int (nI N))]) hx hb dX10_row_76 hl (k := 0) rfl (nI_1 k) (by decide) rfl (fun ls hl => ?_)
    refine lv_goto (tgt := 57) hx hb dX10_row_79 (by decide) ?_
    exact ih (k + 1) (by omega) H locs ls hP hD hS (lv_sub hl [0, 1, 2, 3, 4] rfl)
set_option maxHeartbeats 4000000 in
set_option maxRecDepth 100000 in
theorem kX10_row_5 (l : Launch) (D : va_G) (cB cI cJ cZ cT cR : ClassId) (a0 a1 a2 a3 a4 a5 a6 a7 a8 a9 a10 a11 a12 a13 a14 a15 a16 a17 a18 : Nat) (x0 : Int32) (x1 : Int32) (hy0 : 0 ≤ x0 ∧ x0 ≤ 3) (hy1 : ¬ (60 < x1)) (hy2 : ¬ (x1 < 0)) (sz : Nat) : Met l yX10_row (uc yX10_row cX10_row 5 (some .int)) (rmL 3 0 0) (va_Pc [.ref a0, .int 3, .int x0, .int x1] (MPre D [(cB, .byte), (cI, .int), (cJ, .long), (cZ, .boolean), (cT, .object RX7), (cR, .object RX3)] [(a0, .inr (10, [.int 0, .ref a1, .ref a2, .ref a3, .ref a4, .ref a5, .int 0, .int 0, .int 0, .int 0, .int 0, .long 0, .int 0, .int 0, .int 0, .int (-1), .ref a6, .ref a7, .ref a8, .ref a9, .ref a10, .ref a11, .ref a12, .ref a13, .int 0, .int 0, .ref a14, .ref a15, .int 0, .int 0, .int 0, .ref a16, .ref a17, .int 0, .int 0, .int 0, .int 0, .int 0, .ref a18, .int 0, .int 0, .int 0])), (a1, .inl (cI, 4, .inl (fun _ => (-1)))), (a2, .inl (cI, 4, .inl (fun _ => 0))), (a3, .inl (cJ, 240, .inr (.inl (fun _ => 0))))] sz)) (va_Qi (fun (r : Int32) (_ : (Nat → Int32) × (Nat → Int32)) => r = 0) (MB D [(cB, .byte), (cI, .int), (cJ, .long), (cZ, .boolean), (cT, .object RX7), (cR, .object RX3)] [(a0, .inr (10, [.int 0, .ref a1, .ref a2, .ref a3, .ref a4, .ref a5, .int 0, .int 0, .int 0, .int 0, .int 0, .long 0, .int 0, .int 0, .int 0, .int (-1), .ref a6, .ref a7, .ref a8, .ref a9, .ref a10, .ref a11, .ref a12, .ref a13, .int 0, .int 0, .ref a14, .ref a15, .int 0, .int 0, .int 0, .ref a16, .ref a17, .int 0, .int 0, .int 0, .int 0, .int 0, .ref a18, .int 0, .int 0, .int 0])), (a1, .inl (cI, 4, .inl (fun _ => (-1)))), (a2, .inl (cI, 4, .inl (fun _ => 0))), (a3, .inl (cJ, 240, .inr (.inl (fun _ => 0))))] sz (fun (u : (Nat → Int32) × (Nat → Int32)) => [(a0, .inr (10, [.int 0, .ref a1, .ref a2, .ref a3, .ref a4, .ref a5, .int 0, .int 0, .int 0, .int 0, .int 0, .long 0, .int 0, .int 0, .int 0, .int (-1), .ref a6, .ref a7, .ref a8, .ref a9, .ref a10, .ref a11, .ref a12, .ref a13, .int 0, .int 0, .ref a14, .ref a15, .int 0, .int 0, .int 0, .ref a16, .ref a17, .int 0, .int 0, .int 0, .int 0, .int 0, .ref a18, .int 0, .int 0, .int 0])), (a1, .inl (cI, 4, .inl (u.1))), (a2, .inl (cI, 4, .inl (u.2))), (a3, .inl (cJ, 240, .inr (.inl (fun _ => 0))))])) (va_A [(a0, .inr (10, [.int 0, .ref a1, .ref a2, .ref a3, .ref a4, .ref a5, .int 0, .int 0, .int 0, .int 0, .int 0, .long 0, .int 0, .int 0, .int 0, .int (-1), .ref a6, .ref a7, .ref a8, .ref a9, .ref a10, .ref a11, .ref a12, .ref a13, .int 0, .int 0, .ref a14, .ref a15, .int 0, .int 0, .int 0, .ref a16, .ref a17, .int 0, .int 0, .int 0, .int 0, .int 0, .ref a18, .int 0, .int 0, .int 0])), (a1, .inl (cI, 4, .inl (fun _ => (-1)))), (a2, .inl (cI, 4, .inl (fun _ => 0))), (a3, .inl (cJ, 240, .inr (.inl (fun _ => 0))))] sz)) 0 0 (va_A [(a0, .inr (10, [.int 0, .ref a1, .ref a2, .ref a3, .ref a4, .ref a5, .int 0, .int 0, .int 0, .int 0, .int 0, .long 0, .int 0, .int 0, .int 0, .int (-1), .ref a6, .ref a7, .ref a8, .ref a9, .ref a10, .ref a11, .ref a12, .ref a13, .int 0, .int 0, .ref a14, .ref a15, .int 0, .int 0, .int 0, .ref a16, .ref a17, .int 0, .int 0, .int 0, .int 0, .int 0, .ref a18, .int 0, .int 0, .int 0])), (a1, .inl (cI, 4, .inl (fun _ => (-1)))), (a2, .inl (cI, 4, .inl (fun _ => 0))), (a3, .inl (cJ, 240, .inr (.inl (fun _ => 0))))] sz) := by
  refine pm (by decide) (Nat.le_of_ble_eq_true rfl) ?_
  intro p e s m below meth c ls hx hb hr hml hown hlk hnm hts hv hl
  have hown : s.vm.findClass RX10 = some m.cls := hown
  have hl : lv_has ls 5 [(0, .ref a0), (1, .int 3), (2, .int x0), (3, .int x1)] := hl
  obtain ⟨hsz, hP, hK, hD0, hE⟩ := hv
  subst hsz
  have hD := hD0.self (sz := s.heap.size)
  obtain ⟨AA, hAe⟩ : ∃ AA, AA = va_A [(a0, .inr (10, [.int 0, .ref a1, .ref a2, .ref a3, .ref a4, .ref a5, .int 0, .int 0, .int 0, .int 0, .int 0, .long 0, .int 0, .int 0, .int 0, .int (-1), .ref a6, .ref a7, .ref a8, .ref a9, .ref a10, .ref a11, .ref a12, .ref a13, .int 0, .int 0, .ref a14, .ref a15, .int 0, .int 0, .int 0, .ref a16, .ref a17, .int 0, .int 0, .int 0, .int 0, .int 0, .ref a18, .int 0, .int 0, .int 0])), (a1, .inl (cI, 4, .inl (fun _ => (-1)))), (a2, .inl (cI, 4, .inl (fun _ => 0))), (a3, .inl (cJ, 240, .inr (.inl (fun _ => 0))))] s.heap.size := ⟨_, rfl⟩
  rw [← hAe] at hD
  have hA : ∀ q : Nat, s.heap.size ≤ q → AA q := fun q h => by rw [hAe]; exact Or.inr h
  have hS : va_S AA s.heap s.heap [] := va_S.rf
  obtain ⟨-, hAOT, hAOR, hAOI⟩ := id hE
  refine lv_aload_n hx hb dX10_row_0 rfl (lv_at hl 0 rfl) ?_
  refine lv_iconst (v := 0) hx hb dX10_row_1 (by decide) ?_
  refine va_put (D := D) (ci := 10) (v := .int 0) (ty := .int) (C := RX10) (T := TX10) (N := 42) hx hb hts (fun w h => uc_in w (inX10 w h)) tyX10 tyX10_ok nmX10 hown hK hP hD hS 0 rfl rfl 0 (by decide) (hts _ (uc_in _ q_f1188)) (fun _ h9 => h9) rfl (by decide +kernel) rfl rfl (Nat.le_of_ble_eq_true rfl) dX10_row_2 (fun H locs hP hD hS => ?_)
  have hP : va_P D vwCl [(a0, .inr (10, [.int 0, .ref a1, .ref a2, .ref a3, .ref a4, .ref a5, .int 0, .int 0, .int 0, .int 0, .int 0, .long 0, .int 0, .int 0, .int 0, .int (-1), .ref a6, .ref a7, .ref a8, .ref a9, .ref a10, .ref a11, .ref a12, .ref a13, .int 0, .int 0, .ref a14, .ref a15, .int 0, .int 0, .int 0, .ref a16, .ref a17, .int 0, .int 0, .int 0, .int 0, .int 0, .ref a18, .int 0, .int 0, .int 0])), (a1, .inl (cI, 4, .inl (fun _ => (-1)))), (a2, .inl (cI, 4, .inl (fun _ => 0))), (a3, .inl (cJ, 240, .inr (.inl (fun _ => 0))))] H := hP
  have hD : va_D AA [(a0, .inr (10, [.int 0, .ref a1, .ref a2, .ref a3, .ref a4, .ref a5, .int 0, .int 0, .int 0, .int 0, .int 0, .long 0, .int 0, .int 0, .int 0, .int (-1), .ref a6, .ref a7, .ref a8, .ref a9, .ref a10, .ref a11, .ref a12, .ref a13, .int 0, .int 0, .ref a14, .ref a15, .int 0, .int 0, .int 0, .ref a16, .ref a17, .int 0, .int 0, .int 0, .int 0, .int 0, .ref a18, .int 0, .int 0, .int 0])), (a1, .inl (cI, 4, .inl (fun _ => (-1)))), (a2, .inl (cI, 4, .inl (fun _ => 0))), (a3, .inl (cJ, 240, .inr (.inl (fun _ => 0))))] := hD
  refine lv_iload_n hx hb dX10_row_5 rfl (lv_at hl 1 rfl) ?_
  refine csR (n := 1) (As := [.int 3]) (rest := []) ⟨hx, hb, hml, hown, hts⟩ uc_in (kX10_isSlot_5 l D cB cI cJ cZ cT cR ) q_m1320 q_s1321 q_i11 q_c1322 (by decide +kernel) ⟨(Nat.le_of_ble_eq_true rfl), (Nat.le_of_ble_eq_true rfl)⟩ ⟨(Nat.le_of_ble_eq_true rfl), (Nat.le_of_ble_eq_true rfl)⟩ hK (hP.sub (ws' := []) [] rfl) rfl hl.1 rfl (Nat.le_of_ble_eq_true rfl) dX10_row_6 ?_
  refine lv_if_eq (tgt := 30) hx hb dX10_row_9 (by decide) (fun c9 => absurd c9 (by decide)) (fun _ => ?_)
  refine lv_iload_n hx hb dX10_row_12 rfl (lv_at hl 2 rfl) ?_
  refine lv_i2l (v := x0.toInt64) hx hb dX10_row_13 rfl ?_
  refine lv_lconst (v := 0) hx hb dX10_row_14 (by decide) ?_
  refine lv_ldc2 (v := 3) hx hb hown (hts _ (uc_in _ q_k1323)) dX10_row_15 ?_
  refine csR (n := 3) (As := [.long x0.toInt64, .long 0, .long 3]) (rest := []) ⟨hx, hb, hml, hown, hts⟩ uc_in (k_in l D [(cB, .byte), (cI, .int), (cJ, .long), (cZ, .boolean), (cT, .object RX7), (cR, .object RX3)] x0.toInt64 0 3 1 (if_pos ((in64 (x := x0) (lo := 0) (hi := 3) (by decide) (by decide)).mpr hy0)).symm) q_m1324 q_s1325 q_i11 q_c1326 (by decide +kernel) ⟨(Nat.le_of_ble_eq_true rfl), (Nat.le_of_ble_eq_true rfl)⟩ ⟨(Nat.le_of_ble_eq_true rfl), (Nat.le_of_ble_eq_true rfl)⟩ hK (hP.sub (ws' := []) [] rfl) rfl hl.1 rfl (Nat.le_of_ble_eq_true rfl) dX10_row_18 ?_
  refine lv_if_eq (tgt := 30) hx hb dX10_row_21 (by decide) (fun c9 => absurd c9 (by decide)) (fun _ => ?_)
  refine lv_iload_n hx hb dX10_row_24 rfl (lv_at hl 3 rfl) ?_
  refine lv_bipush (v := 60) hx hb dX10_row_25 (by decide) ?_
  refine lv_icmp_le (tgt := 33) hx hb dX10_row_27 (by decide) (fun _ => ?_) (fun c9 => absurd (Int32.not_lt.mp hy1) c9)
  refine lv_iload_n hx hb dX10_row_33 rfl (lv_at hl 3 rfl) ?_
  refine lv_if_ge (tgt := 40) hx hb dX10_row_34 (by decide) (fun _ => ?_) (fun c9 => absurd (Int32.not_lt.mp hy2) c9)
  refine lv_aload_n hx hb dX10_row_40 rfl (lv_at hl 0 rfl) ?_
  refine va_get (D := D) (ci := 10) (v := .ref a1) (C := RX10) (T := TX10) (N := 42) hx hb hts (fun w h => uc_in w (inX10 w h)) hown hK hP 0 rfl rfl 1 (by decide) (hts _ (uc_in _ q_f1189)) (fun _ h9 => h9) rfl dX10_row_41 ?_
  refine lv_iload_n hx hb dX10_row_44 rfl (lv_at hl 1 rfl) ?_
  refine lv_iload_n hx hb dX10_row_45 rfl (lv_at hl 2 rfl) ?_
  refine va_iast hx hb hK hP hD hS 1 1 rfl rfl (vp_in_iff.mpr ⟨by decide, by decide⟩) dX10_row_46 (fun H locs hP hD hS => ?_)
  obtain ⟨f1, ef1⟩ : ∃ f9, f9 = upd (fun _ => (-1)) 3.toNatClampNeg x0 := ⟨_, rfl⟩
  rw [← ef1] at hP hD
  have hP : va_P D vwCl [(a0, .inr (10, [.int 0, .ref a1, .ref a2, .ref a3, .ref a4, .ref a5, .int 0, .int 0, .int 0, .int 0, .int 0, .long 0, .int 0, .int 0, .int 0, .int (-1), .ref a6, .ref a7, .ref a8, .ref a9, .ref a10, .ref a11, .ref a12, .ref a13, .int 0, .int 0, .ref a14, .ref a15, .int 0, .int 0, .int 0, .ref a16, .ref a17, .int 0, .int 0, .int 0, .int 0, .int 0, .ref a18, .int 0, .int 0, .int 0])), (a1, .inl (cI, 4, .inl f1)), (a2, .inl (cI, 4, .inl (fun _ => 0))), (a3, .inl (cJ, 240, .inr (.inl (fun _ => 0))))] H := hP
  have hD : va_D AA [(a0, .inr (10, [.int 0, .ref a1, .ref a2, .ref a3, .ref a4, .ref a5, .int 0, .int 0, .int 0, .int 0, .int 0, .long 0, .int 0, .int 0, .int 0, .int (-1), .ref a6, .ref a7, .ref a8, .ref a9, .ref a10, .ref a11, .ref a12, .ref a13, .int 0, .int 0, .ref a14, .ref a15, .int 0, .int 0, .int 0, .ref a16, .ref a17, .int 0, .int 0, .int 0, .int 0, .int 0, .ref a18, .int 0, .int 0, .int 0])), (a1, .inl (cI, 4, .inl f1)), (a2, .inl (cI, 4, .inl (fun _ => 0))), (a3, .inl (cJ, 240, .inr (.inl (fun _ => 0))))] := hD
  refine lv_aload_n hx hb dX10_row_47 rfl (lv_at hl 0 rfl) ?_
  refine va_get (D := D) (ci := 10) (v := .ref a2) (C := RX10) (T := TX10) (N := 42) hx hb hts (fun w h => uc_in w (inX10 w h)) hown hK hP 0 rfl rfl 2 (by decide) (hts _ (uc_in _ q_f1190)) (fun _ h9 => h9) rfl dX10_row_48 ?_
  refine lv_iload_n hx hb dX10_row_51 rfl (lv_at hl 1 rfl) ?_
  refine lv_iload_n hx hb dX10_row_52 rfl (lv_at hl 3 rfl) ?_
  refine va_iast hx hb hK hP hD hS 2 1 rfl rfl (vp_in_iff.mpr ⟨by decide, by decide⟩) dX10_row_53 (fun H locs hP hD hS => ?_)
  obtain ⟨f2, ef2⟩ : ∃ f9, f9 = upd (fun _ => 0) 3.toNatClampNeg x1 := ⟨_, rfl⟩
  rw [← ef2] at hP hD
  have hP : va_P D vwCl [(a0, .inr (10, [.int 0, .ref a1, .ref a2, .ref a3, .ref a4, .ref a5, .int 0, .int 0, .int 0, .int 0, .int 0, .long 0, .int 0, .int 0, .int 0, .int (-1), .ref a6, .ref a7, .ref a8, .ref a9, .ref a10, .ref a11, .ref a12, .ref a13, .int 0, .int 0, .ref a14, .ref a15, .int 0, .int 0, .int 0, .ref a16, .ref a17, .int 0, .int 0, .int 0, .int 0, .int 0, .ref a18, .int 0, .int 0, .int 0])), (a1, .inl (cI, 4, .inl f1)), (a2, .inl (cI, 4, .inl f2)), (a3, .inl (cJ, 240, .inr (.inl (fun _ => 0))))] H := hP
  have hD : va_D AA [(a0, .inr (10, [.int 0, .ref a1, .ref a2, .ref a3, .ref a4, .ref a5, .int 0, .int 0, .int 0, .int 0, .int 0, .long 0, .int 0, .int 0, .int 0, .int (-1), .ref a6, .ref a7, .ref a8, .ref a9, .ref a10, .ref a11, .ref a12, .ref a13, .int 0, .int 0, .ref a14, .ref a15, .int 0, .int 0, .int 0, .ref a16, .ref a17, .int 0, .int 0, .int 0, .int 0, .int 0, .ref a18, .int 0, .int 0, .int 0])), (a1, .inl (cI, 4, .inl f1)), (a2, .inl (cI, 4, .inl f2)), (a3, .inl (cJ, 240, .inr (.inl (fun _ => 0))))] := hD
  refine lv_iconst (v := 0) hx hb dX10_row_54 (by decide) ?_
  refine lv_istore (lv' := [(4, .int 0), (0, .ref a0), (1, .int 3), (2, .int x0), (3, .int x1)]) hx hb dX10_row_55 hl (by decide) rfl (fun ls hl => ?_)
  obtain ⟨N, hN, hNe⟩ := nI_of2 (M := 60) (n := 60) (by decide) hy2 (Int32.not_lt.mp hy1)
  subst hNe
  refine lp_X10_row_448 hx hb uc_in hts hown hK hN (fun H locs ls hP hD hS hl => ?_) N 0 (by omega) H locs ls hP hD hS hl
  have hP : va_P D vwCl [(a0, .inr (10, [.int 0, .ref a1, .ref a2, .ref a3, .ref a4, .ref a5, .int 0, .int 0, .int 0, .int 0, .int 0, .long 0, .int 0, .int 0, .int 0, .int (-1), .ref a6, .ref a7, .ref a8, .ref a9, .ref a10, .ref a11, .ref a12, .ref a13, .int 0, .int 0, .ref a14, .ref a15, .int 0, .int 0, .int 0, .ref a16, .ref a17, .int 0, .int 0, .int 0, .int 0, .int 0, .ref a18, .int 0, .int 0, .int 0])), (a1, .inl (cI, 4, .inl f1)), (a2, .inl (cI, 4, .inl f2)), (a3, .inl (cJ, 240, .inr (.inl (fun _ => 0))))] H := hP
  have hD : va_D AA [(a0, .inr (10, [.int 0, .ref a1, .ref a2, .ref a3, .ref a4, .ref a5, .int 0, .int 0, .int 0, .int 0, .int 0, .long 0, .int 0, .int 0, .int 0, .int (-1), .ref a6, .ref a7, .ref a8, .ref a9, .ref a10, .ref a11, .ref a12, .ref a13, .int 0, .int 0, .ref a14, .ref a15, .int 0, .int 0, .int 0, .ref a16, .ref a17, .int 0, .int 0, .int 0, .int 0, .int 0, .ref a18, .int 0, .int 0, .int 0])), (a1, .inl (cI, 4, .inl f1)), (a2, .inl (cI, 4, .inl f2)), (a3, .inl (cJ, 240, .inr (.inl (fun _ => 0))))] := hD
  refine lv_iconst (v := 0) hx hb dX10_row_82 (by decide) ?_
  subst hAe
  have hP9 := hP.sub (ws' := [(a0, .inr (10, [.int 0, .ref a1, .ref a2, .ref a3, .ref a4, .ref a5, .int 0, .int 0, .int 0, .int 0, .int 0, .long 0, .int 0, .int 0, .int 0, .int (-1), .ref a6, .ref a7, .ref a8, .ref a9, .ref a10, .ref a11, .ref a12, .ref a13, .int 0, .int 0, .ref a14, .ref a15, .int 0, .int 0, .int 0, .ref a16, .ref a17, .int 0, .int 0, .int 0, .int 0, .int 0, .ref a18, .int 0, .int 0, .int 0])), (a1, .inl (cI, 4, .inl f1)), (a2, .inl (cI, 4, .inl f2)), (a3, .inl (cJ, 240, .inr (.inl (fun _ => 0))))]) [0, 1, 2, 3] rfl
  have hD9 := hD.sub (ws' := [(a0, .inr (10, [.int 0, .ref a1, .ref a2, .ref a3, .ref a4, .ref a5, .int 0, .int 0, .int 0, .int 0, .int 0, .long 0, .int 0, .int 0, .int 0, .int (-1), .ref a6, .ref a7, .ref a8, .ref a9, .ref a10, .ref a11, .ref a12, .ref a13, .int 0, .int 0, .ref a14, .ref a15, .int 0, .int 0, .int 0, .ref a16, .ref a17, .int 0, .int 0, .int 0, .int 0, .int 0, .ref a18, .int 0, .int 0, .int 0])), (a1, .inl (cI, 4, .inl f1)), (a2, .inl (cI, 4, .inl f2)), (a3, .inl (cJ, 240, .inr (.inl (fun _ => 0))))]) [0, 1, 2, 3] rfl rfl
  exact W.iret hx hb hr (fun t ht hW => ⟨⟨0, (f1, f2), rfl, rfl, by rw [ht]; exact hP9, va_K.moved hW.alike hK, hD9⟩, hS.F ht⟩) hS.2.2 dX10_row_83
set_option maxHeartbeats 4000000 in
set_option maxRecDepth 100000 in
theorem kX9_row_6 (l : Launch) (D : va_G) (cB cI cJ cZ cT cR : ClassId) (a0 a1 a2 a3 a4 a5 a6 a7 a8 a9 a10 a11 : Nat) (x0 : Int32) (x1 : Int32) (x2 : Int32) (hy0 : 0 ≤ x0 ∧ x0 ≤ 3) (hy1 : ¬ (0 ≤ x1 ∧ x1 ≤ 3)) : Met l yX9_row (uc yX9_row cX9_row 4 (some .int)) (rmL 3 0 0) (va_Pc [.ref a0, .int x0, .int x1, .int x2] (RPre D [(cB, .byte), (cI, .int), (cJ, .long), (cZ, .boolean), (cT, .object RX7), (cR, .object RX3)] [(a0, .inr (9, [.ref a1, .ref a2, .ref a3, .ref a4, .int 0, .ref a5, .ref a6, .ref a7, .ref a8, .ref a9, .ref a10, .ref a11]))])) (QcRead (-2)) 0 0 (fun _ => False) := by
  refine pm (by decide) (Nat.le_of_ble_eq_true rfl) ?_
  intro p e s m below meth c ls hx hb hr hml hown hlk hnm hts hv hl
  have hown : s.vm.findClass RX9 = some m.cls := hown
  have hl : lv_has ls 4 [(0, .ref a0), (1, .int x0), (2, .int x1), (3, .int x2)] := hl
  obtain ⟨hP, hK⟩ := hv
  refine lv_iload_n hx hb dX9_row_0 rfl (lv_at hl 1 rfl) ?_
  refine csR (n := 1) (As := [.int x0]) (rest := []) ⟨hx, hb, hml, hown, hts⟩ uc_in (kX9_isSlot_0 l D cB cI cJ cZ cT cR x0 hy0) q_m911 q_s912 q_i1 q_c913 (by decide +kernel) ⟨(Nat.le_of_ble_eq_true rfl), (Nat.le_of_ble_eq_true rfl)⟩ ⟨(Nat.le_of_ble_eq_true rfl), (Nat.le_of_ble_eq_true rfl)⟩ hK (hP.sub (ws' := []) [] rfl) rfl hl.1 rfl (Nat.le_of_ble_eq_true rfl) dX9_row_1 ?_
  refine lv_if_eq (tgt := 22) hx hb dX9_row_4 (by decide) (fun c9 => absurd c9 (by decide)) (fun _ => ?_)
  refine lv_iload_n hx hb dX9_row_7 rfl (lv_at hl 2 rfl) ?_
  refine lv_iconst (v := 0) hx hb dX9_row_8 (by decide) ?_
  refine lv_iconst (v := 3) hx hb dX9_row_9 (by decide) ?_
  refine csR (n := 3) (As := [.int x1, .int 0, .int 3]) (rest := []) ⟨hx, hb, hml, hown, hts⟩ uc_in (k_isWithin l D [(cB, .byte), (cI, .int), (cJ, .long), (cZ, .boolean), (cT, .object RX7), (cR, .object RX3)] x1 0 3 0 (if_neg hy1).symm) q_m651 q_s652 q_i1 q_c653 (by decide +kernel) ⟨(Nat.le_of_ble_eq_true rfl), (Nat.le_of_ble_eq_true rfl)⟩ ⟨(Nat.le_of_ble_eq_true rfl), (Nat.le_of_ble_eq_true rfl)⟩ hK (hP.sub (ws' := []) [] rfl) rfl hl.1 rfl (Nat.le_of_ble_eq_true rfl) dX9_row_10 ?_
  refine lv_if_eq (tgt := 22) hx hb dX9_row_13 (by decide) (fun _ => ?_) (fun c9 => absurd (by decide) c9)
  refine lv_bipush (v := (-2)) hx hb dX9_row_22 (by decide) ?_
  exact W.iret hx hb hr (fun t ht _ => ⟨rfl, ht⟩) (fun _ h => by cases h) dX9_row_24
set_option maxHeartbeats 4000000 in
set_option maxRecDepth 100000 in
theorem kX10_row_6 (l : Launch) (D : va_G) (cB cI cJ cZ cT cR : ClassId) (a0 a1 a2 a3 a4 a5 a6 a7 a8 a9 a10 a11 a12 a13 a14 a15 a16 a17 a18 : Nat) (x0 : Int32) (x1 : Int32) (x2 : Int32) (hy0 : 0 ≤ x0 ∧ x0 ≤ 3) (hy1 : ¬ (0 ≤ x1 ∧ x1 ≤ 3)) (sz : Nat) : Met l yX10_row (uc yX10_row cX10_row 5 (some .int)) (rmL 3 0 0) (va_Pc [.ref a0, .int x0, .int x1, .int x2] (MPre D [(cB, .byte), (cI, .int), (cJ, .long), (cZ, .boolean), (cT, .object RX7), (cR, .object RX3)] [(a0, .inr (10, [.int 0, .ref a1, .ref a2, .ref a3, .ref a4, .ref a5, .int 0, .int 0, .int 0, .int 0, .int 0, .long 0, .int 0, .int 0, .int 0, .int (-1), .ref a6, .ref a7, .ref a8, .ref a9, .ref a10, .ref a11, .ref a12, .ref a13, .int 0, .int 0, .ref a14, .ref a15, .int 0, .int 0, .int 0, .ref a16, .ref a17, .int 0, .int 0, .int 0, .int 0, .int 0, .ref a18, .int 0, .int 0, .int 0]))] sz)) (va_Qi (fun (r : Int32) (_ : Unit) => r = (-2)) (MB D [(cB, .byte), (cI, .int), (cJ, .long), (cZ, .boolean), (cT, .object RX7), (cR, .object RX3)] [(a0, .inr (10, [.int 0, .ref a1, .ref a2, .ref a3, .ref a4, .ref a5, .int 0, .int 0, .int 0, .int 0, .int 0, .long 0, .int 0, .int 0, .int 0, .int (-1), .ref a6, .ref a7, .ref a8, .ref a9, .ref a10, .ref a11, .ref a12, .ref a13, .int 0, .int 0, .ref a14, .ref a15, .int 0, .int 0, .int 0, .ref a16, .ref a17, .int 0, .int 0, .int 0, .int 0, .int 0, .ref a18, .int 0, .int 0, .int 0]))] sz (fun (u : Unit) => [(a0, .inr (10, [.int 0, .ref a1, .ref a2, .ref a3, .ref a4, .ref a5, .int 0, .int 0, .int 0, .int 0, .int 0, .long 0, .int 0, .int 0, .int 0, .int (-1), .ref a6, .ref a7, .ref a8, .ref a9, .ref a10, .ref a11, .ref a12, .ref a13, .int 0, .int 0, .ref a14, .ref a15, .int 0, .int 0, .int 0, .ref a16, .ref a17, .int 0, .int 0, .int 0, .int 0, .int 0, .ref a18, .int 0, .int 0, .int 0]))])) (va_A [(a0, .inr (10, [.int 0, .ref a1, .ref a2, .ref a3, .ref a4, .ref a5, .int 0, .int 0, .int 0, .int 0, .int 0, .long 0, .int 0, .int 0, .int 0, .int (-1), .ref a6, .ref a7, .ref a8, .ref a9, .ref a10, .ref a11, .ref a12, .ref a13, .int 0, .int 0, .ref a14, .ref a15, .int 0, .int 0, .int 0, .ref a16, .ref a17, .int 0, .int 0, .int 0, .int 0, .int 0, .ref a18, .int 0, .int 0, .int 0]))] sz)) 0 0 (va_A [(a0, .inr (10, [.int 0, .ref a1, .ref a2, .ref a3, .ref a4, .ref a5, .int 0, .int 0, .int 0, .int 0, .int 0, .long 0, .int 0, .int 0, .int 0, .int (-1), .ref a6, .ref a7, .ref a8, .ref a9, .ref a10, .ref a11, .ref a12, .ref a13, .int 0, .int 0, .ref a14, .ref a15, .int 0, .int 0, .int 0, .ref a16, .ref a17, .int 0, .int 0, .int 0, .int 0, .int 0, .ref a18, .int 0, .int 0, .int 0]))] sz) := by
  refine pm (by decide) (Nat.le_of_ble_eq_true rfl) ?_
  intro p e s m below meth c ls hx hb hr hml hown hlk hnm hts hv hl
  have hown : s.vm.findClass RX10 = some m.cls := hown
  have hl : lv_has ls 5 [(0, .ref a0), (1, .int x0), (2, .int x1), (3, .int x2)] := hl
  obtain ⟨hsz, hP, hK, hD0, hE⟩ := hv
  subst hsz
  have hD := hD0.self (sz := s.heap.size)
  obtain ⟨AA, hAe⟩ : ∃ AA, AA = va_A [(a0, .inr (10, [.int 0, .ref a1, .ref a2, .ref a3, .ref a4, .ref a5, .int 0, .int 0, .int 0, .int 0, .int 0, .long 0, .int 0, .int 0, .int 0, .int (-1), .ref a6, .ref a7, .ref a8, .ref a9, .ref a10, .ref a11, .ref a12, .ref a13, .int 0, .int 0, .ref a14, .ref a15, .int 0, .int 0, .int 0, .ref a16, .ref a17, .int 0, .int 0, .int 0, .int 0, .int 0, .ref a18, .int 0, .int 0, .int 0]))] s.heap.size := ⟨_, rfl⟩
  rw [← hAe] at hD
  have hA : ∀ q : Nat, s.heap.size ≤ q → AA q := fun q h => by rw [hAe]; exact Or.inr h
  have hS : va_S AA s.heap s.heap [] := va_S.rf
  obtain ⟨-, hAOT, hAOR, hAOI⟩ := id hE
  refine lv_aload_n hx hb dX10_row_0 rfl (lv_at hl 0 rfl) ?_
  refine lv_iconst (v := 0) hx hb dX10_row_1 (by decide) ?_
  refine va_put (D := D) (ci := 10) (v := .int 0) (ty := .int) (C := RX10) (T := TX10) (N := 42) hx hb hts (fun w h => uc_in w (inX10 w h)) tyX10 tyX10_ok nmX10 hown hK hP hD hS 0 rfl rfl 0 (by decide) (hts _ (uc_in _ q_f1188)) (fun _ h9 => h9) rfl (by decide +kernel) rfl rfl (Nat.le_of_ble_eq_true rfl) dX10_row_2 (fun H locs hP hD hS => ?_)
  have hP : va_P D vwCl [(a0, .inr (10, [.int 0, .ref a1, .ref a2, .ref a3, .ref a4, .ref a5, .int 0, .int 0, .int 0, .int 0, .int 0, .long 0, .int 0, .int 0, .int 0, .int (-1), .ref a6, .ref a7, .ref a8, .ref a9, .ref a10, .ref a11, .ref a12, .ref a13, .int 0, .int 0, .ref a14, .ref a15, .int 0, .int 0, .int 0, .ref a16, .ref a17, .int 0, .int 0, .int 0, .int 0, .int 0, .ref a18, .int 0, .int 0, .int 0]))] H := hP
  have hD : va_D AA [(a0, .inr (10, [.int 0, .ref a1, .ref a2, .ref a3, .ref a4, .ref a5, .int 0, .int 0, .int 0, .int 0, .int 0, .long 0, .int 0, .int 0, .int 0, .int (-1), .ref a6, .ref a7, .ref a8, .ref a9, .ref a10, .ref a11, .ref a12, .ref a13, .int 0, .int 0, .ref a14, .ref a15, .int 0, .int 0, .int 0, .ref a16, .ref a17, .int 0, .int 0, .int 0, .int 0, .int 0, .ref a18, .int 0, .int 0, .int 0]))] := hD
  refine lv_iload_n hx hb dX10_row_5 rfl (lv_at hl 1 rfl) ?_
  refine csR (n := 1) (As := [.int x0]) (rest := []) ⟨hx, hb, hml, hown, hts⟩ uc_in (kX10_isSlot_0 l D cB cI cJ cZ cT cR x0 hy0) q_m1320 q_s1321 q_i11 q_c1322 (by decide +kernel) ⟨(Nat.le_of_ble_eq_true rfl), (Nat.le_of_ble_eq_true rfl)⟩ ⟨(Nat.le_of_ble_eq_true rfl), (Nat.le_of_ble_eq_true rfl)⟩ hK (hP.sub (ws' := []) [] rfl) rfl hl.1 rfl (Nat.le_of_ble_eq_true rfl) dX10_row_6 ?_
  refine lv_if_eq (tgt := 30) hx hb dX10_row_9 (by decide) (fun c9 => absurd c9 (by decide)) (fun _ => ?_)
  refine lv_iload_n hx hb dX10_row_12 rfl (lv_at hl 2 rfl) ?_
  refine lv_i2l (v := x1.toInt64) hx hb dX10_row_13 rfl ?_
  refine lv_lconst (v := 0) hx hb dX10_row_14 (by decide) ?_
  refine lv_ldc2 (v := 3) hx hb hown (hts _ (uc_in _ q_k1323)) dX10_row_15 ?_
  refine csR (n := 3) (As := [.long x1.toInt64, .long 0, .long 3]) (rest := []) ⟨hx, hb, hml, hown, hts⟩ uc_in (k_in l D [(cB, .byte), (cI, .int), (cJ, .long), (cZ, .boolean), (cT, .object RX7), (cR, .object RX3)] x1.toInt64 0 3 0 (if_neg (fun q9 => hy1 ((in64 (x := x1) (lo := 0) (hi := 3) (by decide) (by decide)).mp q9))).symm) q_m1324 q_s1325 q_i11 q_c1326 (by decide +kernel) ⟨(Nat.le_of_ble_eq_true rfl), (Nat.le_of_ble_eq_true rfl)⟩ ⟨(Nat.le_of_ble_eq_true rfl), (Nat.le_of_ble_eq_true rfl)⟩ hK (hP.sub (ws' := []) [] rfl) rfl hl.1 rfl (Nat.le_of_ble_eq_true rfl) dX10_row_18 ?_
  refine lv_if_eq (tgt := 30) hx hb dX10_row_21 (by decide) (fun _ => ?_) (fun c9 => absurd (by decide) c9)
  refine lv_bipush (v := (-2)) hx hb dX10_row_30 (by decide) ?_
  subst hAe
  have hP9 := hP.sub (ws' := [(a0, .inr (10, [.int 0, .ref a1, .ref a2, .ref a3, .ref a4, .ref a5, .int 0, .int 0, .int 0, .int 0, .int 0, .long 0, .int 0, .int 0, .int 0, .int (-1), .ref a6, .ref a7, .ref a8, .ref a9, .ref a10, .ref a11, .ref a12, .ref a13, .int 0, .int 0, .ref a14, .ref a15, .int 0, .int 0, .int 0, .ref a16, .ref a17, .int 0, .int 0, .int 0, .int 0, .int 0, .ref a18, .int 0, .int 0, .int 0]))]) [0] rfl
  have hD9 := hD.sub (ws' := [(a0, .inr (10, [.int 0, .ref a1, .ref a2, .ref a3, .ref a4, .ref a5, .int 0, .int 0, .int 0, .int 0, .int 0, .long 0, .int 0, .int 0, .int 0, .int (-1), .ref a6, .ref a7, .ref a8, .ref a9, .ref a10, .ref a11, .ref a12, .ref a13, .int 0, .int 0, .ref a14, .ref a15, .int 0, .int 0, .int 0, .ref a16, .ref a17, .int 0, .int 0, .int 0, .int 0, .int 0, .ref a18, .int 0, .int 0, .int 0]))]) [0] rfl rfl
  exact W.iret hx hb hr (fun t ht hW => ⟨⟨(-2), (), rfl, rfl, by rw [ht]; exact hP9, va_K.moved hW.alike hK, hD9⟩, hS.F ht⟩) hS.2.2 dX10_row_32
set_option maxHeartbeats 4000000 in
set_option maxRecDepth 100000 in
theorem kX9_row_7 (l : Launch) (D : va_G) (cB cI cJ cZ cT cR : ClassId) (a0 a1 a2 a3 a4 a5 a6 a7 a8 a9 a10 a11 : Nat) (x0 : Int32) (x1 : Int32) (x2 : Int32) (hy0 : ¬ (0 ≤ x0 ∧ x0 ≤ 3)) : Met l yX9_row (uc yX9_row cX9_row 4 (some .int)) (rmL 3 0 0) (va_Pc [.ref a0, .int x0, .int x1, .int x2] (RPre D [(cB, .byte), (cI, .int), (cJ, .long), (cZ, .boolean), (cT, .object RX7), (cR, .object RX3)] [(a0, .inr (9, [.ref a1, .ref a2, .ref a3, .ref a4, .int 0, .ref a5, .ref a6, .ref a7, .ref a8, .ref a9, .ref a10, .ref a11]))])) (QcRead (-2)) 0 0 (fun _ => False) := by
  refine pm (by decide) (Nat.le_of_ble_eq_true rfl) ?_
  intro p e s m below meth c ls hx hb hr hml hown hlk hnm hts hv hl
  have hown : s.vm.findClass RX9 = some m.cls := hown
  have hl : lv_has ls 4 [(0, .ref a0), (1, .int x0), (2, .int x1), (3, .int x2)] := hl
  obtain ⟨hP, hK⟩ := hv
  refine lv_iload_n hx hb dX9_row_0 rfl (lv_at hl 1 rfl) ?_
  refine csR (n := 1) (As := [.int x0]) (rest := []) ⟨hx, hb, hml, hown, hts⟩ uc_in (kX9_isSlot_1 l D cB cI cJ cZ cT cR x0 hy0) q_m911 q_s912 q_i1 q_c913 (by decide +kernel) ⟨(Nat.le_of_ble_eq_true rfl), (Nat.le_of_ble_eq_true rfl)⟩ ⟨(Nat.le_of_ble_eq_true rfl), (Nat.le_of_ble_eq_true rfl)⟩ hK (hP.sub (ws' := []) [] rfl) rfl hl.1 rfl (Nat.le_of_ble_eq_true rfl) dX9_row_1 ?_
  refine lv_if_eq (tgt := 22) hx hb dX9_row_4 (by decide) (fun _ => ?_) (fun c9 => absurd (by decide) c9)
  refine lv_bipush (v := (-2)) hx hb dX9_row_22 (by decide) ?_
  exact W.iret hx hb hr (fun t ht _ => ⟨rfl, ht⟩) (fun _ h => by cases h) dX9_row_24
set_option maxHeartbeats 4000000 in
set_option maxRecDepth 100000 in
theorem kX10_row_7 (l : Launch) (D : va_G) (cB cI cJ cZ cT cR : ClassId) (a0 a1 a2 a3 a4 a5 a6 a7 a8 a9 a10 a11 a12 a13 a14 a15 a16 a17 a18 : Nat) (x0 : Int32) (x1 : Int32) (x2 : Int32) (hy0 : ¬ (0 ≤ x0 ∧ x0 ≤ 3)) (sz : Nat) : Met l yX10_row (uc yX10_row cX10_row 5 (some .int)) (rmL 3 0 0) (va_Pc [.ref a0, .int x0, .int x1, .int x2] (MPre D [(cB, .byte), (cI, .int), (cJ, .long), (cZ, .boolean), (cT, .object RX7), (cR, .object RX3)] [(a0, .inr (10, [.int 0, .ref a1, .ref a2, .ref a3, .ref a4, .ref a5, .int 0, .int 0, .int 0, .int 0, .int 0, .long 0, .int 0, .int 0, .int 0, .int (-1), .ref a6, .ref a7, .ref a8, .ref a9, .ref a10, .ref a11, .ref a12, .ref a13, .int 0, .int 0, .ref a14, .ref a15, .int 0, .int 0, .int 0, .ref a16, .ref a17, .int 0, .int 0, .int 0, .int 0, .int 0, .ref a18, .int 0, .int 0, .int 0]))] sz)) (va_Qi (fun (r : Int32) (_ : Unit) => r = (-2)) (MB D [(cB, .byte), (cI, .int), (cJ, .long), (cZ, .boolean), (cT, .object RX7), (cR, .object RX3)] [(a0, .inr (10, [.int 0, .ref a1, .ref a2, .ref a3, .ref a4, .ref a5, .int 0, .int 0, .int 0, .int 0, .int 0, .long 0, .int 0, .int 0, .int 0, .int (-1), .ref a6, .ref a7, .ref a8, .ref a9, .ref a10, .ref a11, .ref a12, .ref a13, .int 0, .int 0, .ref a14, .ref a15, .int 0, .int 0, .int 0, .ref a16, .ref a17, .int 0, .int 0, .int 0, .int 0, .int 0, .ref a18, .int 0, .int 0, .int 0]))] sz (fun (u : Unit) => [(a0, .inr (10, [.int 0, .ref a1, .ref a2, .ref a3, .ref a4, .ref a5, .int 0, .int 0, .int 0, .int 0, .int 0, .long 0, .int 0, .int 0, .int 0, .int (-1), .ref a6, .ref a7, .ref a8, .ref a9, .ref a10, .ref a11, .ref a12, .ref a13, .int 0, .int 0, .ref a14, .ref a15, .int 0, .int 0, .int 0, .ref a16, .ref a17, .int 0, .int 0, .int 0, .int 0, .int 0, .ref a18, .int 0, .int 0, .int 0]))])) (va_A [(a0, .inr (10, [.int 0, .ref a1, .ref a2, .ref a3, .ref a4, .ref a5, .int 0, .int 0, .int 0, .int 0, .int 0, .long 0, .int 0, .int 0, .int 0, .int (-1), .ref a6, .ref a7, .ref a8, .ref a9, .ref a10, .ref a11, .ref a12, .ref a13, .int 0, .int 0, .ref a14, .ref a15, .int 0, .int 0, .int 0, .ref a16, .ref a17, .int 0, .int 0, .int 0, .int 0, .int 0, .ref a18, .int 0, .int 0, .int 0]))] sz)) 0 0 (va_A [(a0, .inr (10, [.int 0, .ref a1, .ref a2, .ref a3, .ref a4, .ref a5, .int 0, .int 0, .int 0, .int 0, .int 0, .long 0, .int 0, .int 0, .int 0, .int (-1), .ref a6, .ref a7, .ref a8, .ref a9, .ref a10, .ref a11, .ref a12, .ref a13, .int 0, .int 0, .ref a14, .ref a15, .int 0, .int 0, .int 0, .ref a16, .ref a17, .int 0, .int 0, .int 0, .int 0, .int 0, .ref a18, .int 0, .int 0, .int 0]))] sz) := by
  refine pm (by decide) (Nat.le_of_ble_eq_true rfl) ?_
  intro p e s m below meth c ls hx hb hr hml hown hlk hnm hts hv hl
  have hown : s.vm.findClass RX10 = some m.cls := hown
  have hl : lv_has ls 5 [(0, .ref a0), (1, .int x0), (2, .int x1), (3, .int x2)] := hl
  obtain ⟨hsz, hP, hK, hD0, hE⟩ := hv
  subst hsz
  have hD := hD0.self (sz := s.heap.size)
  obtain ⟨AA, hAe⟩ : ∃ AA, AA = va_A [(a0, .inr (10, [.int 0, .ref a1, .ref a2, .ref a3, .ref a4, .ref a5, .int 0, .int 0, .int 0, .int 0, .int 0, .long 0, .int 0, .int 0, .int 0, .int (-1), .ref a6, .ref a7, .ref a8, .ref a9, .ref a10, .ref a11, .ref a12, .ref a13, .int 0, .int 0, .ref a14, .ref a15, .int 0, .int 0, .int 0, .ref a16, .ref a17, .int 0, .int 0, .int 0, .int 0, .int 0, .ref a18, .int 0, .int 0, .int 0]))] s.heap.size := ⟨_, rfl⟩
  rw [← hAe] at hD
  have hA : ∀ q : Nat, s.heap.size ≤ q → AA q := fun q h => by rw [hAe]; exact Or.inr h
  have hS : va_S AA s.heap s.heap [] := va_S.rf
  obtain ⟨-, hAOT, hAOR, hAOI⟩ := id hE
  refine lv_aload_n hx hb dX10_row_0 rfl (lv_at hl 0 rfl) ?_
  refine lv_iconst (v := 0) hx hb dX10_row_1 (by decide) ?_
  refine va_put (D := D) (ci := 10) (v := .int 0) (ty := .int) (C := RX10) (T := TX10) (N := 42) hx hb hts (fun w h => uc_in w (inX10 w h)) tyX10 tyX10_ok nmX10 hown hK hP hD hS 0 rfl rfl 0 (by decide) (hts _ (uc_in _ q_f1188)) (fun _ h9 => h9) rfl (by decide +kernel) rfl rfl (Nat.le_of_ble_eq_true rfl) dX10_row_2 (fun H locs hP hD hS => ?_)
  have hP : va_P D vwCl [(a0, .inr (10, [.int 0, .ref a1, .ref a2, .ref a3, .ref a4, .ref a5, .int 0, .int 0, .int 0, .int 0, .int 0, .long 0, .int 0, .int 0, .int 0, .int (-1), .ref a6, .ref a7, .ref a8, .ref a9, .ref a10, .ref a11, .ref a12, .ref a13, .int 0, .int 0, .ref a14, .ref a15, .int 0, .int 0, .int 0, .ref a16, .ref a17, .int 0, .int 0, .int 0, .int 0, .int 0, .ref a18, .int 0, .int 0, .int 0]))] H := hP
  have hD : va_D AA [(a0, .inr (10, [.int 0, .ref a1, .ref a2, .ref a3, .ref a4, .ref a5, .int 0, .int 0, .int 0, .int 0, .int 0, .long 0, .int 0, .int 0, .int 0, .int (-1), .ref a6, .ref a7, .ref a8, .ref a9, .ref a10, .ref a11, .ref a12, .ref a13, .int 0, .int 0, .ref a14, .ref a15, .int 0, .int 0, .int 0, .ref a16, .ref a17, .int 0, .int 0, .int 0, .int 0, .int 0, .ref a18, .int 0, .int 0, .int 0]))] := hD
  refine lv_iload_n hx hb dX10_row_5 rfl (lv_at hl 1 rfl) ?_
  refine csR (n := 1) (As := [.int x0]) (rest := []) ⟨hx, hb, hml, hown, hts⟩ uc_in (kX10_isSlot_1 l D cB cI cJ cZ cT cR x0 hy0) q_m1320 q_s1321 q_i11 q_c1322 (by decide +kernel) ⟨(Nat.le_of_ble_eq_true rfl), (Nat.le_of_ble_eq_true rfl)⟩ ⟨(Nat.le_of_ble_eq_true rfl), (Nat.le_of_ble_eq_true rfl)⟩ hK (hP.sub (ws' := []) [] rfl) rfl hl.1 rfl (Nat.le_of_ble_eq_true rfl) dX10_row_6 ?_
  refine lv_if_eq (tgt := 30) hx hb dX10_row_9 (by decide) (fun _ => ?_) (fun c9 => absurd (by decide) c9)
  refine lv_bipush (v := (-2)) hx hb dX10_row_30 (by decide) ?_
  subst hAe
  have hP9 := hP.sub (ws' := [(a0, .inr (10, [.int 0, .ref a1, .ref a2, .ref a3, .ref a4, .ref a5, .int 0, .int 0, .int 0, .int 0, .int 0, .long 0, .int 0, .int 0, .int 0, .int (-1), .ref a6, .ref a7, .ref a8, .ref a9, .ref a10, .ref a11, .ref a12, .ref a13, .int 0, .int 0, .ref a14, .ref a15, .int 0, .int 0, .int 0, .ref a16, .ref a17, .int 0, .int 0, .int 0, .int 0, .int 0, .ref a18, .int 0, .int 0, .int 0]))]) [0] rfl
  have hD9 := hD.sub (ws' := [(a0, .inr (10, [.int 0, .ref a1, .ref a2, .ref a3, .ref a4, .ref a5, .int 0, .int 0, .int 0, .int 0, .int 0, .long 0, .int 0, .int 0, .int 0, .int (-1), .ref a6, .ref a7, .ref a8, .ref a9, .ref a10, .ref a11, .ref a12, .ref a13, .int 0, .int 0, .ref a14, .ref a15, .int 0, .int 0, .int 0, .ref a16, .ref a17, .int 0, .int 0, .int 0, .int 0, .int 0, .ref a18, .int 0, .int 0, .int 0]))]) [0] rfl rfl
  exact W.iret hx hb hr (fun t ht hW => ⟨⟨(-2), (), rfl, rfl, by rw [ht]; exact hP9, va_K.moved hW.alike hK, hD9⟩, hS.F ht⟩) hS.2.2 dX10_row_32
set_option maxHeartbeats 4000000 in
set_option maxRecDepth 100000 in
theorem law_case_69 {p : Program} {l : Launch} {e : Env} {s : State} {m : MethodId} {below : List Frame} {meth : Method} {c : Code} {D : va_G} {cB cI cJ cZ cT cR : ClassId} {b : Nat} {xs : Nat → Int32} {A B : Nat → Nat} {H : Heap} {locs : List Loc} {ls : Array Slot} (C0 : lw_At p s m meth c b 6 xs) (hE : EX s) (hK : va_K D vwCl [(cB, .byte), (cI, .int), (cJ, .long), (cZ, .boolean), (cT, .object RX7), (cR, .object RX3)] s) (hP : va_P D vwCl (fwAll cB cI cJ cZ cT cR A B) H) (hD : va_D (fun q : Nat => s.heap.size ≤ q) (fwAll cB cI cJ cZ cT cR A B)) (hS : va_S (fun q : Nat => s.heap.size ≤ q) s.heap H locs) (hl : lv_has ls 4 [(3, .int 0), (2, .ref (B 0)), (1, .ref (A 0)), (0, .ref b)]) : W p l e room_1 s m #[Value.ref b] below meth c H locs 180 4779 (lw_Z below #[Value.ref b] s) (F0 m 2183 ls []) := by
  obtain ⟨hx, hb, hr, hml, hown, hts, hX, hbl, hlocks, hgv⟩ := id C0
  have hown : s.vm.findClass RL = some m.cls := hown
  have hb : c.code = cL_law := hb
  have hA : ∀ q : Nat, s.heap.size ≤ q → (fun q : Nat => s.heap.size ≤ q) q := fun _ h => h
  have hbA : ¬ (fun q : Nat => s.heap.size ≤ q) b := Nat.not_le.mpr hbl
  have hP := hP.sub (ws' := [((A 0), .inr (9, [.ref (A 1), .ref (A 3), .ref (A 12), .ref (A 21), .int 0, .ref (A 49), .ref (A 51), .ref (A 60), .ref (A 61), .ref (A 62), .ref (A 63), .ref (A 64)])), ((A 51), .inl (cR, 4, .inr (.inr (.inr (.inr (va_up (va_up (va_up (va_up (fun _ => none) 0 (some (A 52))) 1 (some (A 54))) 2 (some (A 56))) 3 (some (A 58)))))))), ((A 52), .inr (3, [.int (-1), .int 0, .ref (A 53)])), ((A 53), .inl (cJ, 60, .inr (.inl (fun _ => 0)))), ((A 54), .inr (3, [.int (-1), .int 0, .ref (A 55)])), ((A 55), .inl (cJ, 60, .inr (.inl (fun _ => 0)))), ((A 56), .inr (3, [.int (-1), .int 0, .ref (A 57)])), ((A 57), .inl (cJ, 60, .inr (.inl (fun _ => 0)))), ((A 58), .inr (3, [.int (-1), .int 0, .ref (A 59)])), ((A 59), .inl (cJ, 60, .inr (.inl (fun _ => 0)))), ((B 0), .inr (10, [.int 0, .ref (B 1), .ref (B 2), .ref (B 3), .ref (B 4), .ref (B 5), .int 0, .int 0, .int 0, .int 0, .int 0, .long 0, .int 0, .int 0, .int 0, .int (-1), .ref (B 6), .ref (B 7), .ref (B 8), .ref (B 9), .ref (B 10), .ref (B 11), .ref (B 12), .ref (B 13), .int 0, .int 0, .ref (B 14), .ref (B 15), .int 0, .int 0, .int 0, .ref (B 16), .ref (B 17), .int 0, .int 0, .int 0, .int 0, .int 0, .ref (B 18), .int 0, .int 0, .int 0])), ((B 1), .inl (cI, 4, .inl (fun _ => (-1)))), ((B 2), .inl (cI, 4, .inl (fun _ => 0))), ((B 3), .inl (cJ, 240, .inr (.inl (fun _ => 0))))]) [0, 51, 52, 53, 54, 55, 56, 57, 58, 59, 60, 61, 62, 63] rfl
  have hD := hD.sub (ws' := [((A 0), .inr (9, [.ref (A 1), .ref (A 3), .ref (A 12), .ref (A 21), .int 0, .ref (A 49), .ref (A 51), .ref (A 60), .ref (A 61), .ref (A 62), .ref (A 63), .ref (A 64)])), ((A 51), .inl (cR, 4, .inr (.inr (.inr (.inr (va_up (va_up (va_up (va_up (fun _ => none) 0 (some (A 52))) 1 (some (A 54))) 2 (some (A 56))) 3 (some (A 58)))))))), ((A 52), .inr (3, [.int (-1), .int 0, .ref (A 53)])), ((A 53), .inl (cJ, 60, .inr (.inl (fun _ => 0)))), ((A 54), .inr (3, [.int (-1), .int 0, .ref (A 55)])), ((A 55), .inl (cJ, 60, .inr (.inl (fun _ => 0)))), ((A 56), .inr (3, [.int (-1), .int 0, .ref (A 57)])), ((A 57), .inl (cJ, 60, .inr (.inl (fun _ => 0)))), ((A 58), .inr (3, [.int (-1), .int 0, .ref (A 59)])), ((A 59), .inl (cJ, 60, .inr (.inl (fun _ => 0)))), ((B 0), .inr (10, [.int 0, .ref (B 1), .ref (B 2), .ref (B 3), .ref (B 4), .ref (B 5), .int 0, .int 0, .int 0, .int 0, .int 0, .long 0, .int 0, .int 0, .int 0, .int (-1), .ref (B 6), .ref (B 7), .ref (B 8), .ref (B 9), .ref (B 10), .ref (B 11), .ref (B 12), .ref (B 13), .int 0, .int 0, .ref (B 14), .ref (B 15), .int 0, .int 0, .int 0, .ref (B 16), .ref (B 17), .int 0, .int 0, .int 0, .int 0, .int 0, .ref (B 18), .int 0, .int 0, .int 0])), ((B 1), .inl (cI, 4, .inl (fun _ => (-1)))), ((B 2), .inl (cI, 4, .inl (fun _ => 0))), ((B 3), .inl (cJ, 240, .inr (.inl (fun _ => 0))))]) [0, 51, 52, 53, 54, 55, 56, 57, 58, 59, 60, 61, 62, 63] rfl rfl
  refine lv_aload_n hx hb dL_law_2183 rfl (lv_at hl 2 rfl) ?_
  refine lv_aload_n hx hb dL_law_2184 rfl (lv_at hl 3 rfl) ?_
  refine lv_iload_n hx hb dL_law_2185 rfl (lv_at hl 0 rfl) ?_
  refine lv_iconst (v := 1) hx hb dL_law_2186 (by decide) ?_
  refine lv_iadd hx hb dL_law_2187 ?_
  refine pv_i (v := 1) (by decide) ?_
  refine va_sld hx hb hX hbl hbA hS (vp_in_iff.mpr ⟨by decide, by decide⟩) dL_law_2188 ?_
  refine lv_topi (fun p1 ep1 => ?_)
  refine lv_aload_n hx hb dL_law_2189 rfl (lv_at hl 3 rfl) ?_
  refine lv_iload_n hx hb dL_law_2190 rfl (lv_at hl 0 rfl) ?_
  refine lv_iconst (v := 2) hx hb dL_law_2191 (by decide) ?_
  refine lv_iadd hx hb dL_law_2192 ?_
  refine pv_i (v := 2) (by decide) ?_
  refine va_sld hx hb hX hbl hbA hS (vp_in_iff.mpr ⟨by decide, by decide⟩) dL_law_2193 ?_
  refine lv_topi (fun p2 ep2 => ?_)
  refine lv_aload_n hx hb dL_law_2194 rfl (lv_at hl 3 rfl) ?_
  refine lv_iload_n hx hb dL_law_2195 rfl (lv_at hl 0 rfl) ?_
  refine lv_iconst (v := 3) hx hb dL_law_2196 (by decide) ?_
  refine lv_iadd hx hb dL_law_2197 ?_
  refine pv_i (v := 3) (by decide) ?_
  refine va_sld hx hb hX hbl hbA hS (vp_in_iff.mpr ⟨by decide, by decide⟩) dL_law_2198 ?_
  refine lv_topi (fun p3 ep3 => ?_)
  by_cases hc1 : 0 ≤ p1 ∧ p1 ≤ 3
  · by_cases hc2 : 0 ≤ p2 ∧ p2 ≤ 3
    · by_cases hc3 : 60 < p3
      · refine cvR (n := 3) (As := [.int p1, .int p2, .int p3]) (rest := []) ⟨hx, hb, hml, hown, hts⟩ (fun _ h => uw_in h) (kX9_row_0 l D cB cI cJ cZ cT cR (A 0) (A 1) (A 3) (A 12) (A 21) (A 49) (A 51) (A 60) (A 61) (A 62) (A 63) (A 64) p1 p2 p3 hc1 hc2 hc3) q_m1158 q_n1159 q_e1160 q_i1 q_c1161 (by decide +kernel) ⟨(Nat.le_of_ble_eq_true rfl), (Nat.le_of_ble_eq_true rfl)⟩ ⟨(Nat.le_of_ble_eq_true rfl), (Nat.le_of_ble_eq_true rfl)⟩ hK (hP.sub (ws' := [((A 0), .inr (9, [.ref (A 1), .ref (A 3), .ref (A 12), .ref (A 21), .int 0, .ref (A 49), .ref (A 51), .ref (A 60), .ref (A 61), .ref (A 62), .ref (A 63), .ref (A 64)]))]) [0] rfl) 9 0 rfl rfl rfl hl.1 rfl (Nat.le_of_ble_eq_true rfl) dL_law_2199 ?_
        refine lv_aload_n hx hb dL_law_2202 rfl (lv_at hl 1 rfl) ?_
        refine lv_aload_n hx hb dL_law_2203 rfl (lv_at hl 3 rfl) ?_
        refine lv_iload_n hx hb dL_law_2204 rfl (lv_at hl 0 rfl) ?_
        refine lv_iconst (v := 1) hx hb dL_law_2205 (by decide) ?_
        refine lv_iadd hx hb dL_law_2206 ?_
        refine pv_i (v := 1) (by decide) ?_
        refine va_sld hx hb hX hbl hbA hS (vp_in_iff.mpr ⟨by decide, by decide⟩) dL_law_2207 ?_
        refine pv_i (v := p1) ep1.symm ?_
        refine lv_aload_n hx hb dL_law_2208 rfl (lv_at hl 3 rfl) ?_
        refine lv_iload_n hx hb dL_law_2209 rfl (lv_at hl 0 rfl) ?_
        refine lv_iconst (v := 2) hx hb dL_law_2210 (by decide) ?_
        refine lv_iadd hx hb dL_law_2211 ?_
        refine pv_i (v := 2) (by decide) ?_
        refine va_sld hx hb hX hbl hbA hS (vp_in_iff.mpr ⟨by decide, by decide⟩) dL_law_2212 ?_
        refine pv_i (v := p2) ep2.symm ?_
        refine lv_aload_n hx hb dL_law_2213 rfl (lv_at hl 3 rfl) ?_
        refine lv_iload_n hx hb dL_law_2214 rfl (lv_at hl 0 rfl) ?_
        refine lv_iconst (v := 3) hx hb dL_law_2215 (by decide) ?_
        refine lv_iadd hx hb dL_law_2216 ?_
        refine pv_i (v := 3) (by decide) ?_
        refine va_sld hx hb hX hbl hbA hS (vp_in_iff.mpr ⟨by decide, by decide⟩) dL_law_2217 ?_
        refine pv_i (v := p3) ep3.symm ?_
        refine cvM (n := 3) (As := [.int p1, .int p2, .int p3]) (rest := [.int (-2)]) (wr := [((A 0), .inr (9, [.ref (A 1), .ref (A 3), .ref (A 12), .ref (A 21), .int 0, .ref (A 49), .ref (A 51), .ref (A 60), .ref (A 61), .ref (A 62), .ref (A 63), .ref (A 64)])), ((A 51), .inl (cR, 4, .inr (.inr (.inr (.inr (va_up (va_up (va_up (va_up (fun _ => none) 0 (some (A 52))) 1 (some (A 54))) 2 (some (A 56))) 3 (some (A 58)))))))), ((A 52), .inr (3, [.int (-1), .int 0, .ref (A 53)])), ((A 53), .inl (cJ, 60, .inr (.inl (fun _ => 0)))), ((A 54), .inr (3, [.int (-1), .int 0, .ref (A 55)])), ((A 55), .inl (cJ, 60, .inr (.inl (fun _ => 0)))), ((A 56), .inr (3, [.int (-1), .int 0, .ref (A 57)])), ((A 57), .inl (cJ, 60, .inr (.inl (fun _ => 0)))), ((A 58), .inr (3, [.int (-1), .int 0, .ref (A 59)])), ((A 59), .inl (cJ, 60, .inr (.inl (fun _ => 0)))), ((B 1), .inl (cI, 4, .inl (fun _ => (-1)))), ((B 2), .inl (cI, 4, .inl (fun _ => 0))), ((B 3), .inl (cJ, 240, .inr (.inl (fun _ => 0))))]) ⟨hx, hb, hml, hown, hts⟩ (fun _ h => uw_in h) (kX10_row_0 l D cB cI cJ cZ cT cR (B 0) (B 1) (B 2) (B 3) (B 4) (B 5) (B 6) (B 7) (B 8) (B 9) (B 10) (B 11) (B 12) (B 13) (B 14) (B 15) (B 16) (B 17) (B 18) p1 p2 p3 hc1 hc2 hc3 H.size) q_m1316 q_n1317 q_e1318 q_i11 q_c1319 (by decide +kernel) ⟨(Nat.le_of_ble_eq_true rfl), (Nat.le_of_ble_eq_true rfl)⟩ ⟨(Nat.le_of_ble_eq_true rfl), (Nat.le_of_ble_eq_true rfl)⟩ hE hK hP hD hS hA [10] [0, 1, 2, 3, 4, 5, 6, 7, 8, 9, 11, 12, 13] rfl rfl rfl rfl (by decide) 10 0 rfl rfl rfl hl.1 rfl (Nat.le_of_ble_eq_true rfl) dL_law_2218 (fun r9 u H locs hpo hP hD hS => ?_)
        have hP : va_P D vwCl [((A 0), .inr (9, [.ref (A 1), .ref (A 3), .ref (A 12), .ref (A 21), .int 0, .ref (A 49), .ref (A 51), .ref (A 60), .ref (A 61), .ref (A 62), .ref (A 63), .ref (A 64)])), ((A 51), .inl (cR, 4, .inr (.inr (.inr (.inr (va_up (va_up (va_up (va_up (fun _ => none) 0 (some (A 52))) 1 (some (A 54))) 2 (some (A 56))) 3 (some (A 58)))))))), ((A 52), .inr (3, [.int (-1), .int 0, .ref (A 53)])), ((A 53), .inl (cJ, 60, .inr (.inl (fun _ => 0)))), ((A 54), .inr (3, [.int (-1), .int 0, .ref (A 55)])), ((A 55), .inl (cJ, 60, .inr (.inl (fun _ => 0)))), ((A 56), .inr (3, [.int (-1), .int 0, .ref (A 57)])), ((A 57), .inl (cJ, 60, .inr (.inl (fun _ => 0)))), ((A 58), .inr (3, [.int (-1), .int 0, .ref (A 59)])), ((A 59), .inl (cJ, 60, .inr (.inl (fun _ => 0)))), ((B 1), .inl (cI, 4, .inl (fun _ => (-1)))), ((B 2), .inl (cI, 4, .inl (fun _ => 0))), ((B 3), .inl (cJ, 240, .inr (.inl (fun _ => 0)))), ((B 0), .inr (10, [.int 0, .ref (B 1), .ref (B 2), .ref (B 3), .ref (B 4), .ref (B 5), .int 0, .int 0, .int 0, .int 0, .int 0, .long 0, .int 0, .int 0, .int 0, .int (-1), .ref (B 6), .ref (B 7), .ref (B 8), .ref (B 9), .ref (B 10), .ref (B 11), .ref (B 12), .ref (B 13), .int 0, .int 0, .ref (B 14), .ref (B 15), .int 0, .int 0, .int 0, .ref (B 16), .ref (B 17), .int 0, .int 0, .int 0, .int 0, .int 0, .ref (B 18), .int 0, .int 0, .int 0]))] H := hP
        have hD : va_D (fun q : Nat => s.heap.size ≤ q) [((A 0), .inr (9, [.ref (A 1), .ref (A 3), .ref (A 12), .ref (A 21), .int 0, .ref (A 49), .ref (A 51), .ref (A 60), .ref (A 61), .ref (A 62), .ref (A 63), .ref (A 64)])), ((A 51), .inl (cR, 4, .inr (.inr (.inr (.inr (va_up (va_up (va_up (va_up (fun _ => none) 0 (some (A 52))) 1 (some (A 54))) 2 (some (A 56))) 3 (some (A 58)))))))), ((A 52), .inr (3, [.int (-1), .int 0, .ref (A 53)])), ((A 53), .inl (cJ, 60, .inr (.inl (fun _ => 0)))), ((A 54), .inr (3, [.int (-1), .int 0, .ref (A 55)])), ((A 55), .inl (cJ, 60, .inr (.inl (fun _ => 0)))), ((A 56), .inr (3, [.int (-1), .int 0, .ref (A 57)])), ((A 57), .inl (cJ, 60, .inr (.inl (fun _ => 0)))), ((A 58), .inr (3, [.int (-1), .int 0, .ref (A 59)])), ((A 59), .inl (cJ, 60, .inr (.inl (fun _ => 0)))), ((B 1), .inl (cI, 4, .inl (fun _ => (-1)))), ((B 2), .inl (cI, 4, .inl (fun _ => 0))), ((B 3), .inl (cJ, 240, .inr (.inl (fun _ => 0)))), ((B 0), .inr (10, [.int 0, .ref (B 1), .ref (B 2), .ref (B 3), .ref (B 4), .ref (B 5), .int 0, .int 0, .int 0, .int 0, .int 0, .long 0, .int 0, .int 0, .int 0, .int (-1), .ref (B 6), .ref (B 7), .ref (B 8), .ref (B 9), .ref (B 10), .ref (B 11), .ref (B 12), .ref (B 13), .int 0, .int 0, .ref (B 14), .ref (B 15), .int 0, .int 0, .int 0, .ref (B 16), .ref (B 17), .int 0, .int 0, .int 0, .int 0, .int 0, .ref (B 18), .int 0, .int 0, .int 0]))] := hD
        refine W.cs (cells' := 180) (slots' := 4779) rfl rfl ?_
        have hpo : r9 = (-2) := hpo
        subst hpo
        refine lv_icmp_eq (tgt := 2362) hx hb dL_law_2221 (by decide) (fun _ => ?_) (fun c9 => absurd (by decide) c9)
        exact law_end C0 hS (Nat.le_of_ble_eq_true rfl) (Nat.le_of_ble_eq_true rfl) ls hl
      · by_cases hc4 : p3 < 0
        · refine cvR (n := 3) (As := [.int p1, .int p2, .int p3]) (rest := []) ⟨hx, hb, hml, hown, hts⟩ (fun _ h => uw_in h) (kX9_row_1 l D cB cI cJ cZ cT cR (A 0) (A 1) (A 3) (A 12) (A 21) (A 49) (A 51) (A 60) (A 61) (A 62) (A 63) (A 64) p1 p2 p3 hc1 hc2 hc3 hc4) q_m1158 q_n1159 q_e1160 q_i1 q_c1161 (by decide +kernel) ⟨(Nat.le_of_ble_eq_true rfl), (Nat.le_of_ble_eq_true rfl)⟩ ⟨(Nat.le_of_ble_eq_true rfl), (Nat.le_of_ble_eq_true rfl)⟩ hK (hP.sub (ws' := [((A 0), .inr (9, [.ref (A 1), .ref (A 3), .ref (A 12), .ref (A 21), .int 0, .ref (A 49), .ref (A 51), .ref (A 60), .ref (A 61), .ref (A 62), .ref (A 63), .ref (A 64)]))]) [0] rfl) 9 0 rfl rfl rfl hl.1 rfl (Nat.le_of_ble_eq_true rfl) dL_law_2199 ?_
          refine lv_aload_n hx hb dL_law_2202 rfl (lv_at hl 1 rfl) ?_
          refine lv_aload_n hx hb dL_law_2203 rfl (lv_at hl 3 rfl) ?_
          refine lv_iload_n hx hb dL_law_2204 rfl (lv_at hl 0 rfl) ?_
          refine lv_iconst (v := 1) hx hb dL_law_2205 (by decide) ?_
          refine lv_iadd hx hb dL_law_2206 ?_
          refine pv_i (v := 1) (by decide) ?_
          refine va_sld hx hb hX hbl hbA hS (vp_in_iff.mpr ⟨by decide, by decide⟩) dL_law_2207 ?_
          refine pv_i (v := p1) ep1.symm ?_
          refine lv_aload_n hx hb dL_law_2208 rfl (lv_at hl 3 rfl) ?_
          refine lv_iload_n hx hb dL_law_2209 rfl (lv_at hl 0 rfl) ?_
          refine lv_iconst (v := 2) hx hb dL_law_2210 (by decide) ?_
          refine lv_iadd hx hb dL_law_2211 ?_
          refine pv_i (v := 2) (by decide) ?_
          refine va_sld hx hb hX hbl hbA hS (vp_in_iff.mpr ⟨by decide, by decide⟩) dL_law_2212 ?_
          refine pv_i (v := p2) ep2.symm ?_
          refine lv_aload_n hx hb dL_law_2213 rfl (lv_at hl 3 rfl) ?_
          refine lv_iload_n hx hb dL_law_2214 rfl (lv_at hl 0 rfl) ?_
          refine lv_iconst (v := 3) hx hb dL_law_2215 (by decide) ?_
          refine lv_iadd hx hb dL_law_2216 ?_
          refine pv_i (v := 3) (by decide) ?_
          refine va_sld hx hb hX hbl hbA hS (vp_in_iff.mpr ⟨by decide, by decide⟩) dL_law_2217 ?_
          refine pv_i (v := p3) ep3.symm ?_
          refine cvM (n := 3) (As := [.int p1, .int p2, .int p3]) (rest := [.int (-3)]) (wr := [((A 0), .inr (9, [.ref (A 1), .ref (A 3), .ref (A 12), .ref (A 21), .int 0, .ref (A 49), .ref (A 51), .ref (A 60), .ref (A 61), .ref (A 62), .ref (A 63), .ref (A 64)])), ((A 51), .inl (cR, 4, .inr (.inr (.inr (.inr (va_up (va_up (va_up (va_up (fun _ => none) 0 (some (A 52))) 1 (some (A 54))) 2 (some (A 56))) 3 (some (A 58)))))))), ((A 52), .inr (3, [.int (-1), .int 0, .ref (A 53)])), ((A 53), .inl (cJ, 60, .inr (.inl (fun _ => 0)))), ((A 54), .inr (3, [.int (-1), .int 0, .ref (A 55)])), ((A 55), .inl (cJ, 60, .inr (.inl (fun _ => 0)))), ((A 56), .inr (3, [.int (-1), .int 0, .ref (A 57)])), ((A 57), .inl (cJ, 60, .inr (.inl (fun _ => 0)))), ((A 58), .inr (3, [.int (-1), .int 0, .ref (A 59)])), ((A 59), .inl (cJ, 60, .inr (.inl (fun _ => 0)))), ((B 1), .inl (cI, 4, .inl (fun _ => (-1)))), ((B 2), .inl (cI, 4, .inl (fun _ => 0))), ((B 3), .inl (cJ, 240, .inr (.inl (fun _ => 0))))]) ⟨hx, hb, hml, hown, hts⟩ (fun _ h => uw_in h) (kX10_row_1 l D cB cI cJ cZ cT cR (B 0) (B 1) (B 2) (B 3) (B 4) (B 5) (B 6) (B 7) (B 8) (B 9) (B 10) (B 11) (B 12) (B 13) (B 14) (B 15) (B 16) (B 17) (B 18) p1 p2 p3 hc1 hc2 hc3 hc4 H.size) q_m1316 q_n1317 q_e1318 q_i11 q_c1319 (by decide +kernel) ⟨(Nat.le_of_ble_eq_true rfl), (Nat.le_of_ble_eq_true rfl)⟩ ⟨(Nat.le_of_ble_eq_true rfl), (Nat.le_of_ble_eq_true rfl)⟩ hE hK hP hD hS hA [10] [0, 1, 2, 3, 4, 5, 6, 7, 8, 9, 11, 12, 13] rfl rfl rfl rfl (by decide) 10 0 rfl rfl rfl hl.1 rfl (Nat.le_of_ble_eq_true rfl) dL_law_2218 (fun r9 u H locs hpo hP hD hS => ?_)
          have hP : va_P D vwCl [((A 0), .inr (9, [.ref (A 1), .ref (A 3), .ref (A 12), .ref (A 21), .int 0, .ref (A 49), .ref (A 51), .ref (A 60), .ref (A 61), .ref (A 62), .ref (A 63), .ref (A 64)])), ((A 51), .inl (cR, 4, .inr (.inr (.inr (.inr (va_up (va_up (va_up (va_up (fun _ => none) 0 (some (A 52))) 1 (some (A 54))) 2 (some (A 56))) 3 (some (A 58)))))))), ((A 52), .inr (3, [.int (-1), .int 0, .ref (A 53)])), ((A 53), .inl (cJ, 60, .inr (.inl (fun _ => 0)))), ((A 54), .inr (3, [.int (-1), .int 0, .ref (A 55)])), ((A 55), .inl (cJ, 60, .inr (.inl (fun _ => 0)))), ((A 56), .inr (3, [.int (-1), .int 0, .ref (A 57)])), ((A 57), .inl (cJ, 60, .inr (.inl (fun _ => 0)))), ((A 58), .inr (3, [.int (-1), .int 0, .ref (A 59)])), ((A 59), .inl (cJ, 60, .inr (.inl (fun _ => 0)))), ((B 1), .inl (cI, 4, .inl (fun _ => (-1)))), ((B 2), .inl (cI, 4, .inl (fun _ => 0))), ((B 3), .inl (cJ, 240, .inr (.inl (fun _ => 0)))), ((B 0), .inr (10, [.int 0, .ref (B 1), .ref (B 2), .ref (B 3), .ref (B 4), .ref (B 5), .int 0, .int 0, .int 0, .int 0, .int 0, .long 0, .int 0, .int 0, .int 0, .int (-1), .ref (B 6), .ref (B 7), .ref (B 8), .ref (B 9), .ref (B 10), .ref (B 11), .ref (B 12), .ref (B 13), .int 0, .int 0, .ref (B 14), .ref (B 15), .int 0, .int 0, .int 0, .ref (B 16), .ref (B 17), .int 0, .int 0, .int 0, .int 0, .int 0, .ref (B 18), .int 0, .int 0, .int 0]))] H := hP
          have hD : va_D (fun q : Nat => s.heap.size ≤ q) [((A 0), .inr (9, [.ref (A 1), .ref (A 3), .ref (A 12), .ref (A 21), .int 0, .ref (A 49), .ref (A 51), .ref (A 60), .ref (A 61), .ref (A 62), .ref (A 63), .ref (A 64)])), ((A 51), .inl (cR, 4, .inr (.inr (.inr (.inr (va_up (va_up (va_up (va_up (fun _ => none) 0 (some (A 52))) 1 (some (A 54))) 2 (some (A 56))) 3 (some (A 58)))))))), ((A 52), .inr (3, [.int (-1), .int 0, .ref (A 53)])), ((A 53), .inl (cJ, 60, .inr (.inl (fun _ => 0)))), ((A 54), .inr (3, [.int (-1), .int 0, .ref (A 55)])), ((A 55), .inl (cJ, 60, .inr (.inl (fun _ => 0)))), ((A 56), .inr (3, [.int (-1), .int 0, .ref (A 57)])), ((A 57), .inl (cJ, 60, .inr (.inl (fun _ => 0)))), ((A 58), .inr (3, [.int (-1), .int 0, .ref (A 59)])), ((A 59), .inl (cJ, 60, .inr (.inl (fun _ => 0)))), ((B 1), .inl (cI, 4, .inl (fun _ => (-1)))), ((B 2), .inl (cI, 4, .inl (fun _ => 0))), ((B 3), .inl (cJ, 240, .inr (.inl (fun _ => 0)))), ((B 0), .inr (10, [.int 0, .ref (B 1), .ref (B 2), .ref (B 3), .ref (B 4), .ref (B 5), .int 0, .int 0, .int 0, .int 0, .int 0, .long 0, .int 0, .int 0, .int 0, .int (-1), .ref (B 6), .ref (B 7), .ref (B 8), .ref (B 9), .ref (B 10), .ref (B 11), .ref (B 12), .ref (B 13), .int 0, .int 0, .ref (B 14), .ref (B 15), .int 0, .int 0, .int 0, .ref (B 16), .ref (B 17), .int 0, .int 0, .int 0, .int 0, .int 0, .ref (B 18), .int 0, .int 0, .int 0]))] := hD
          refine W.cs (cells' := 180) (slots' := 4779) rfl rfl ?_
          have hpo : r9 = (-3) := hpo
          subst hpo
          refine lv_icmp_eq (tgt := 2362) hx hb dL_law_2221 (by decide) (fun _ => ?_) (fun c9 => absurd (by decide) c9)
          exact law_end C0 hS (Nat.le_of_ble_eq_true rfl) (Nat.le_of_ble_eq_true rfl) ls hl
        · rcases case4 hc1 with e9 | e9 | e9 | e9
          · subst e9
            refine cvM (n := 3) (As := [.int 0, .int p2, .int p3]) (rest := []) (wr := [((A 54), .inr (3, [.int (-1), .int 0, .ref (A 55)])), ((A 55), .inl (cJ, 60, .inr (.inl (fun _ => 0)))), ((A 56), .inr (3, [.int (-1), .int 0, .ref (A 57)])), ((A 57), .inl (cJ, 60, .inr (.inl (fun _ => 0)))), ((A 58), .inr (3, [.int (-1), .int 0, .ref (A 59)])), ((A 59), .inl (cJ, 60, .inr (.inl (fun _ => 0)))), ((B 0), .inr (10, [.int 0, .ref (B 1), .ref (B 2), .ref (B 3), .ref (B 4), .ref (B 5), .int 0, .int 0, .int 0, .int 0, .int 0, .long 0, .int 0, .int 0, .int 0, .int (-1), .ref (B 6), .ref (B 7), .ref (B 8), .ref (B 9), .ref (B 10), .ref (B 11), .ref (B 12), .ref (B 13), .int 0, .int 0, .ref (B 14), .ref (B 15), .int 0, .int 0, .int 0, .ref (B 16), .ref (B 17), .int 0, .int 0, .int 0, .int 0, .int 0, .ref (B 18), .int 0, .int 0, .int 0])), ((B 1), .inl (cI, 4, .inl (fun _ => (-1)))), ((B 2), .inl (cI, 4, .inl (fun _ => 0))), ((B 3), .inl (cJ, 240, .inr (.inl (fun _ => 0))))]) ⟨hx, hb, hml, hown, hts⟩ (fun _ h => uw_in h) (kX9_row_2 l D cB cI cJ cZ cT cR (A 0) (A 51) (A 52) (A 53) (A 1) (A 3) (A 12) (A 21) (A 49) (A 60) (A 61) (A 62) (A 63) (A 64) (A 54) (A 56) (A 58) p2 p3 hc2 hc3 hc4 H.size) q_m1158 q_n1159 q_e1160 q_i1 q_c1161 (by decide +kernel) ⟨(Nat.le_of_ble_eq_true rfl), (Nat.le_of_ble_eq_true rfl)⟩ ⟨(Nat.le_of_ble_eq_true rfl), (Nat.le_of_ble_eq_true rfl)⟩ hE hK hP hD hS hA [0, 1, 2, 3] [4, 5, 6, 7, 8, 9, 10, 11, 12, 13] rfl rfl rfl rfl (by decide) 9 0 rfl rfl rfl hl.1 rfl (Nat.le_of_ble_eq_true rfl) dL_law_2199 (fun r9 u H locs hpo hP hD hS => ?_)
            have hP : va_P D vwCl [((A 54), .inr (3, [.int (-1), .int 0, .ref (A 55)])), ((A 55), .inl (cJ, 60, .inr (.inl (fun _ => 0)))), ((A 56), .inr (3, [.int (-1), .int 0, .ref (A 57)])), ((A 57), .inl (cJ, 60, .inr (.inl (fun _ => 0)))), ((A 58), .inr (3, [.int (-1), .int 0, .ref (A 59)])), ((A 59), .inl (cJ, 60, .inr (.inl (fun _ => 0)))), ((B 0), .inr (10, [.int 0, .ref (B 1), .ref (B 2), .ref (B 3), .ref (B 4), .ref (B 5), .int 0, .int 0, .int 0, .int 0, .int 0, .long 0, .int 0, .int 0, .int 0, .int (-1), .ref (B 6), .ref (B 7), .ref (B 8), .ref (B 9), .ref (B 10), .ref (B 11), .ref (B 12), .ref (B 13), .int 0, .int 0, .ref (B 14), .ref (B 15), .int 0, .int 0, .int 0, .ref (B 16), .ref (B 17), .int 0, .int 0, .int 0, .int 0, .int 0, .ref (B 18), .int 0, .int 0, .int 0])), ((B 1), .inl (cI, 4, .inl (fun _ => (-1)))), ((B 2), .inl (cI, 4, .inl (fun _ => 0))), ((B 3), .inl (cJ, 240, .inr (.inl (fun _ => 0)))), ((A 0), .inr (9, [.ref (A 1), .ref (A 3), .ref (A 12), .ref (A 21), .int 0, .ref (A 49), .ref (A 51), .ref (A 60), .ref (A 61), .ref (A 62), .ref (A 63), .ref (A 64)])), ((A 51), .inl (cR, 4, .inr (.inr (.inr (.inr (va_up (va_up (va_up (va_up (fun _ => none) 0 (some (A 52))) 1 (some (A 54))) 2 (some (A 56))) 3 (some (A 58)))))))), ((A 52), .inr (3, [.int p3, .int p2, .ref (A 53)])), ((A 53), .inl (cJ, 60, .inr (.inl (fun _ => 0))))] H := hP
            have hD : va_D (fun q : Nat => s.heap.size ≤ q) [((A 54), .inr (3, [.int (-1), .int 0, .ref (A 55)])), ((A 55), .inl (cJ, 60, .inr (.inl (fun _ => 0)))), ((A 56), .inr (3, [.int (-1), .int 0, .ref (A 57)])), ((A 57), .inl (cJ, 60, .inr (.inl (fun _ => 0)))), ((A 58), .inr (3, [.int (-1), .int 0, .ref (A 59)])), ((A 59), .inl (cJ, 60, .inr (.inl (fun _ => 0)))), ((B 0), .inr (10, [.int 0, .ref (B 1), .ref (B 2), .ref (B 3), .ref (B 4), .ref (B 5), .int 0, .int 0, .int 0, .int 0, .int 0, .long 0, .int 0, .int 0, .int 0, .int (-1), .ref (B 6), .ref (B 7), .ref (B 8), .ref (B 9), .ref (B 10), .ref (B 11), .ref (B 12), .ref (B 13), .int 0, .int 0, .ref (B 14), .ref (B 15), .int 0, .int 0, .int 0, .ref (B 16), .ref (B 17), .int 0, .int 0, .int 0, .int 0, .int 0, .ref (B 18), .int 0, .int 0, .int 0])), ((B 1), .inl (cI, 4, .inl (fun _ => (-1)))), ((B 2), .inl (cI, 4, .inl (fun _ => 0))), ((B 3), .inl (cJ, 240, .inr (.inl (fun _ => 0)))), ((A 0), .inr (9, [.ref (A 1), .ref (A 3), .ref (A 12), .ref (A 21), .int 0, .ref (A 49), .ref (A 51), .ref (A 60), .ref (A 61), .ref (A 62), .ref (A 63), .ref (A 64)])), ((A 51), .inl (cR, 4, .inr (.inr (.inr (.inr (va_up (va_up (va_up (va_up (fun _ => none) 0 (some (A 52))) 1 (some (A 54))) 2 (some (A 56))) 3 (some (A 58)))))))), ((A 52), .inr (3, [.int p3, .int p2, .ref (A 53)])), ((A 53), .inl (cJ, 60, .inr (.inl (fun _ => 0))))] := hD
            refine W.cs (cells' := 180) (slots' := 4779) rfl rfl ?_
            have hpo : r9 = 0 := hpo
            subst hpo
            refine lv_aload_n hx hb dL_law_2202 rfl (lv_at hl 1 rfl) ?_
            refine lv_aload_n hx hb dL_law_2203 rfl (lv_at hl 3 rfl) ?_
            refine lv_iload_n hx hb dL_law_2204 rfl (lv_at hl 0 rfl) ?_
            refine lv_iconst (v := 1) hx hb dL_law_2205 (by decide) ?_
            refine lv_iadd hx hb dL_law_2206 ?_
            refine pv_i (v := 1) (by decide) ?_
            refine va_sld hx hb hX hbl hbA hS (vp_in_iff.mpr ⟨by decide, by decide⟩) dL_law_2207 ?_
            refine pv_i (v := 0) ep1.symm ?_
            refine lv_aload_n hx hb dL_law_2208 rfl (lv_at hl 3 rfl) ?_
            refine lv_iload_n hx hb dL_law_2209 rfl (lv_at hl 0 rfl) ?_
            refine lv_iconst (v := 2) hx hb dL_law_2210 (by decide) ?_
            refine lv_iadd hx hb dL_law_2211 ?_
            refine pv_i (v := 2) (by decide) ?_
            refine va_sld hx hb hX hbl hbA hS (vp_in_iff.mpr ⟨by decide, by decide⟩) dL_law_2212 ?_
            refine pv_i (v := p2) ep2.symm ?_
            refine lv_aload_n hx hb dL_law_2213 rfl (lv_at hl 3 rfl) ?_
            refine lv_iload_n hx hb dL_law_2214 rfl (lv_at hl 0 rfl) ?_
            refine lv_iconst (v := 3) hx hb dL_law_2215 (by decide) ?_
            refine lv_iadd hx hb dL_law_2216 ?_
            refine pv_i (v := 3) (by decide) ?_
            refine va_sld hx hb hX hbl hbA hS (vp_in_iff.mpr ⟨by decide, by decide⟩) dL_law_2217 ?_
            refine pv_i (v := p3) ep3.symm ?_
            refine cvM (n := 3) (As := [.int 0, .int p2, .int p3]) (rest := [.int 0]) (wr := [((A 54), .inr (3, [.int (-1), .int 0, .ref (A 55)])), ((A 55), .inl (cJ, 60, .inr (.inl (fun _ => 0)))), ((A 56), .inr (3, [.int (-1), .int 0, .ref (A 57)])), ((A 57), .inl (cJ, 60, .inr (.inl (fun _ => 0)))), ((A 58), .inr (3, [.int (-1), .int 0, .ref (A 59)])), ((A 59), .inl (cJ, 60, .inr (.inl (fun _ => 0)))), ((A 0), .inr (9, [.ref (A 1), .ref (A 3), .ref (A 12), .ref (A 21), .int 0, .ref (A 49), .ref (A 51), .ref (A 60), .ref (A 61), .ref (A 62), .ref (A 63), .ref (A 64)])), ((A 51), .inl (cR, 4, .inr (.inr (.inr (.inr (va_up (va_up (va_up (va_up (fun _ => none) 0 (some (A 52))) 1 (some (A 54))) 2 (some (A 56))) 3 (some (A 58)))))))), ((A 52), .inr (3, [.int p3, .int p2, .ref (A 53)])), ((A 53), .inl (cJ, 60, .inr (.inl (fun _ => 0))))]) ⟨hx, hb, hml, hown, hts⟩ (fun _ h => uw_in h) (kX10_row_2 l D cB cI cJ cZ cT cR (B 0) (B 1) (B 2) (B 3) (B 4) (B 5) (B 6) (B 7) (B 8) (B 9) (B 10) (B 11) (B 12) (B 13) (B 14) (B 15) (B 16) (B 17) (B 18) p2 p3 hc2 hc3 hc4 H.size) q_m1316 q_n1317 q_e1318 q_i11 q_c1319 (by decide +kernel) ⟨(Nat.le_of_ble_eq_true rfl), (Nat.le_of_ble_eq_true rfl)⟩ ⟨(Nat.le_of_ble_eq_true rfl), (Nat.le_of_ble_eq_true rfl)⟩ hE hK hP hD hS hA [6, 7, 8, 9] [0, 1, 2, 3, 4, 5, 10, 11, 12, 13] rfl rfl rfl rfl (by decide) 10 0 rfl rfl rfl hl.1 rfl (Nat.le_of_ble_eq_true rfl) dL_law_2218 (fun r9 u H locs hpo hP hD hS => ?_)
            obtain ⟨f5, f6⟩ := u
            have hP : va_P D vwCl [((A 54), .inr (3, [.int (-1), .int 0, .ref (A 55)])), ((A 55), .inl (cJ, 60, .inr (.inl (fun _ => 0)))), ((A 56), .inr (3, [.int (-1), .int 0, .ref (A 57)])), ((A 57), .inl (cJ, 60, .inr (.inl (fun _ => 0)))), ((A 58), .inr (3, [.int (-1), .int 0, .ref (A 59)])), ((A 59), .inl (cJ, 60, .inr (.inl (fun _ => 0)))), ((A 0), .inr (9, [.ref (A 1), .ref (A 3), .ref (A 12), .ref (A 21), .int 0, .ref (A 49), .ref (A 51), .ref (A 60), .ref (A 61), .ref (A 62), .ref (A 63), .ref (A 64)])), ((A 51), .inl (cR, 4, .inr (.inr (.inr (.inr (va_up (va_up (va_up (va_up (fun _ => none) 0 (some (A 52))) 1 (some (A 54))) 2 (some (A 56))) 3 (some (A 58)))))))), ((A 52), .inr (3, [.int p3, .int p2, .ref (A 53)])), ((A 53), .inl (cJ, 60, .inr (.inl (fun _ => 0)))), ((B 0), .inr (10, [.int 0, .ref (B 1), .ref (B 2), .ref (B 3), .ref (B 4), .ref (B 5), .int 0, .int 0, .int 0, .int 0, .int 0, .long 0, .int 0, .int 0, .int 0, .int (-1), .ref (B 6), .ref (B 7), .ref (B 8), .ref (B 9), .ref (B 10), .ref (B 11), .ref (B 12), .ref (B 13), .int 0, .int 0, .ref (B 14), .ref (B 15), .int 0, .int 0, .int 0, .ref (B 16), .ref (B 17), .int 0, .int 0, .int 0, .int 0, .int 0, .ref (B 18), .int 0, .int 0, .int 0])), ((B 1), .inl (cI, 4, .inl f5)), ((B 2), .inl (cI, 4, .inl f6)), ((B 3), .inl (cJ, 240, .inr (.inl (fun _ => 0))))] H := hP
            have hD : va_D (fun q : Nat => s.heap.size ≤ q) [((A 54), .inr (3, [.int (-1), .int 0, .ref (A 55)])), ((A 55), .inl (cJ, 60, .inr (.inl (fun _ => 0)))), ((A 56), .inr (3, [.int (-1), .int 0, .ref (A 57)])), ((A 57), .inl (cJ, 60, .inr (.inl (fun _ => 0)))), ((A 58), .inr (3, [.int (-1), .int 0, .ref (A 59)])), ((A 59), .inl (cJ, 60, .inr (.inl (fun _ => 0)))), ((A 0), .inr (9, [.ref (A 1), .ref (A 3), .ref (A 12), .ref (A 21), .int 0, .ref (A 49), .ref (A 51), .ref (A 60), .ref (A 61), .ref (A 62), .ref (A 63), .ref (A 64)])), ((A 51), .inl (cR, 4, .inr (.inr (.inr (.inr (va_up (va_up (va_up (va_up (fun _ => none) 0 (some (A 52))) 1 (some (A 54))) 2 (some (A 56))) 3 (some (A 58)))))))), ((A 52), .inr (3, [.int p3, .int p2, .ref (A 53)])), ((A 53), .inl (cJ, 60, .inr (.inl (fun _ => 0)))), ((B 0), .inr (10, [.int 0, .ref (B 1), .ref (B 2), .ref (B 3), .ref (B 4), .ref (B 5), .int 0, .int 0, .int 0, .int 0, .int 0, .long 0, .int 0, .int 0, .int 0, .int (-1), .ref (B 6), .ref (B 7), .ref (B 8), .ref (B 9), .ref (B 10), .ref (B 11), .ref (B 12), .ref (B 13), .int 0, .int 0, .ref (B 14), .ref (B 15), .int 0, .int 0, .int 0, .ref (B 16), .ref (B 17), .int 0, .int 0, .int 0, .int 0, .int 0, .ref (B 18), .int 0, .int 0, .int 0])), ((B 1), .inl (cI, 4, .inl f5)), ((B 2), .inl (cI, 4, .inl f6)), ((B 3), .inl (cJ, 240, .inr (.inl (fun _ => 0))))] := hD
            refine W.cs (cells' := 180) (slots' := 4779) rfl rfl ?_
            have hpo : r9 = 0 := hpo
            subst hpo
            refine lv_icmp_eq (tgt := 2362) hx hb dL_law_2221 (by decide) (fun _ => ?_) (fun c9 => absurd (by decide) c9)
            exact law_end C0 hS (Nat.le_of_ble_eq_true rfl) (Nat.le_of_ble_eq_true rfl) ls hl
          · subst e9
            refine cvM (n := 3) (As := [.int 1, .int p2, .int p3]) (rest := []) (wr := [((A 52), .inr (3, [.int (-1), .int 0, .ref (A 53)])), ((A 53), .inl (cJ, 60, .inr (.inl (fun _ => 0)))), ((A 56), .inr (3, [.int (-1), .int 0, .ref (A 57)])), ((A 57), .inl (cJ, 60, .inr (.inl (fun _ => 0)))), ((A 58), .inr (3, [.int (-1), .int 0, .ref (A 59)])), ((A 59), .inl (cJ, 60, .inr (.inl (fun _ => 0)))), ((B 0), .inr (10, [.int 0, .ref (B 1), .ref (B 2), .ref (B 3), .ref (B 4), .ref (B 5), .int 0, .int 0, .int 0, .int 0, .int 0, .long 0, .int 0, .int 0, .int 0, .int (-1), .ref (B 6), .ref (B 7), .ref (B 8), .ref (B 9), .ref (B 10), .ref (B 11), .ref (B 12), .ref (B 13), .int 0, .int 0, .ref (B 14), .ref (B 15), .int 0, .int 0, .int 0, .ref (B 16), .ref (B 17), .int 0, .int 0, .int 0, .int 0, .int 0, .ref (B 18), .int 0, .int 0, .int 0])), ((B 1), .inl (cI, 4, .inl (fun _ => (-1)))), ((B 2), .inl (cI, 4, .inl (fun _ => 0))), ((B 3), .inl (cJ, 240, .inr (.inl (fun _ => 0))))]) ⟨hx, hb, hml, hown, hts⟩ (fun _ h => uw_in h) (kX9_row_3 l D cB cI cJ cZ cT cR (A 0) (A 51) (A 54) (A 55) (A 1) (A 3) (A 12) (A 21) (A 49) (A 60) (A 61) (A 62) (A 63) (A 64) (A 52) (A 56) (A 58) p2 p3 hc2 hc3 hc4 H.size) q_m1158 q_n1159 q_e1160 q_i1 q_c1161 (by decide +kernel) ⟨(Nat.le_of_ble_eq_true rfl), (Nat.le_of_ble_eq_true rfl)⟩ ⟨(Nat.le_of_ble_eq_true rfl), (Nat.le_of_ble_eq_true rfl)⟩ hE hK hP hD hS hA [0, 1, 4, 5] [2, 3, 6, 7, 8, 9, 10, 11, 12, 13] rfl rfl rfl rfl (by decide) 9 0 rfl rfl rfl hl.1 rfl (Nat.le_of_ble_eq_true rfl) dL_law_2199 (fun r9 u H locs hpo hP hD hS => ?_)
            have hP : va_P D vwCl [((A 52), .inr (3, [.int (-1), .int 0, .ref (A 53)])), ((A 53), .inl (cJ, 60, .inr (.inl (fun _ => 0)))), ((A 56), .inr (3, [.int (-1), .int 0, .ref (A 57)])), ((A 57), .inl (cJ, 60, .inr (.inl (fun _ => 0)))), ((A 58), .inr (3, [.int (-1), .int 0, .ref (A 59)])), ((A 59), .inl (cJ, 60, .inr (.inl (fun _ => 0)))), ((B 0), .inr (10, [.int 0, .ref (B 1), .ref (B 2), .ref (B 3), .ref (B 4), .ref (B 5), .int 0, .int 0, .int 0, .int 0, .int 0, .long 0, .int 0, .int 0, .int 0, .int (-1), .ref (B 6), .ref (B 7), .ref (B 8), .ref (B 9), .ref (B 10), .ref (B 11), .ref (B 12), .ref (B 13), .int 0, .int 0, .ref (B 14), .ref (B 15), .int 0, .int 0, .int 0, .ref (B 16), .ref (B 17), .int 0, .int 0, .int 0, .int 0, .int 0, .ref (B 18), .int 0, .int 0, .int 0])), ((B 1), .inl (cI, 4, .inl (fun _ => (-1)))), ((B 2), .inl (cI, 4, .inl (fun _ => 0))), ((B 3), .inl (cJ, 240, .inr (.inl (fun _ => 0)))), ((A 0), .inr (9, [.ref (A 1), .ref (A 3), .ref (A 12), .ref (A 21), .int 0, .ref (A 49), .ref (A 51), .ref (A 60), .ref (A 61), .ref (A 62), .ref (A 63), .ref (A 64)])), ((A 51), .inl (cR, 4, .inr (.inr (.inr (.inr (va_up (va_up (va_up (va_up (fun _ => none) 0 (some (A 52))) 1 (some (A 54))) 2 (some (A 56))) 3 (some (A 58)))))))), ((A 54), .inr (3, [.int p3, .int p2, .ref (A 55)])), ((A 55), .inl (cJ, 60, .inr (.inl (fun _ => 0))))] H := hP
            have hD : va_D (fun q : Nat => s.heap.size ≤ q) [((A 52), .inr (3, [.int (-1), .int 0, .ref (A 53)])), ((A 53), .inl (cJ, 60, .inr (.inl (fun _ => 0)))), ((A 56), .inr (3, [.int (-1), .int 0, .ref (A 57)])), ((A 57), .inl (cJ, 60, .inr (.inl (fun _ => 0)))), ((A 58), .inr (3, [.int (-1), .int 0, .ref (A 59)])), ((A 59), .inl (cJ, 60, .inr (.inl (fun _ => 0)))), ((B 0), .inr (10, [.int 0, .ref (B 1), .ref (B 2), .ref (B 3), .ref (B 4), .ref (B 5), .int 0, .int 0, .int 0, .int 0, .int 0, .long 0, .int 0, .int 0, .int 0, .int (-1), .ref (B 6), .ref (B 7), .ref (B 8), .ref (B 9), .ref (B 10), .ref (B 11), .ref (B 12), .ref (B 13), .int 0, .int 0, .ref (B 14), .ref (B 15), .int 0, .int 0, .int 0, .ref (B 16), .ref (B 17), .int 0, .int 0, .int 0, .int 0, .int 0, .ref (B 18), .int 0, .int 0, .int 0])), ((B 1), .inl (cI, 4, .inl (fun _ => (-1)))), ((B 2), .inl (cI, 4, .inl (fun _ => 0))), ((B 3), .inl (cJ, 240, .inr (.inl (fun _ => 0)))), ((A 0), .inr (9, [.ref (A 1), .ref (A 3), .ref (A 12), .ref (A 21), .int 0, .ref (A 49), .ref (A 51), .ref (A 60), .ref (A 61), .ref (A 62), .ref (A 63), .ref (A 64)])), ((A 51), .inl (cR, 4, .inr (.inr (.inr (.inr (va_up (va_up (va_up (va_up (fun _ => none) 0 (some (A 52))) 1 (some (A 54))) 2 (some (A 56))) 3 (some (A 58)))))))), ((A 54), .inr (3, [.int p3, .int p2, .ref (A 55)])), ((A 55), .inl (cJ, 60, .inr (.inl (fun _ => 0))))] := hD
            refine W.cs (cells' := 180) (slots' := 4779) rfl rfl ?_
            have hpo : r9 = 0 := hpo
            subst hpo
            refine lv_aload_n hx hb dL_law_2202 rfl (lv_at hl 1 rfl) ?_
            refine lv_aload_n hx hb dL_law_2203 rfl (lv_at hl 3 rfl) ?_
            refine lv_iload_n hx hb dL_law_2204 rfl (lv_at hl 0 rfl) ?_
            refine lv_iconst (v := 1) hx hb dL_law_2205 (by decide) ?_
            refine lv_iadd hx hb dL_law_2206 ?_
            refine pv_i (v := 1) (by decide) ?_
            refine va_sld hx hb hX hbl hbA hS (vp_in_iff.mpr ⟨by decide, by decide⟩) dL_law_2207 ?_
            refine pv_i (v := 1) ep1.symm ?_
            refine lv_aload_n hx hb dL_law_2208 rfl (lv_at hl 3 rfl) ?_
            refine lv_iload_n hx hb dL_law_2209 rfl (lv_at hl 0 rfl) ?_
            refine lv_iconst (v := 2) hx hb dL_law_2210 (by decide) ?_
            refine lv_iadd hx hb dL_law_2211 ?_
            refine pv_i (v := 2) (by decide) ?_
            refine va_sld hx hb hX hbl hbA hS (vp_in_iff.mpr ⟨by decide, by decide⟩) dL_law_2212 ?_
            refine pv_i (v := p2) ep2.symm ?_
            refine lv_aload_n hx hb dL_law_2213 rfl (lv_at hl 3 rfl) ?_
            refine lv_iload_n hx hb dL_law_2214 rfl (lv_at hl 0 rfl) ?_
            refine lv_iconst (v := 3) hx hb dL_law_2215 (by decide) ?_
            refine lv_iadd hx hb dL_law_2216 ?_
            refine pv_i (v := 3) (by decide) ?_
            refine va_sld hx hb hX hbl hbA hS (vp_in_iff.mpr ⟨by decide, by decide⟩) dL_law_2217 ?_
            refine pv_i (v := p3) ep3.symm ?_
            refine cvM (n := 3) (As := [.int 1, .int p2, .int p3]) (rest := [.int 0]) (wr := [((A 52), .inr (3, [.int (-1), .int 0, .ref (A 53)])), ((A 53), .inl (cJ, 60, .inr (.inl (fun _ => 0)))), ((A 56), .inr (3, [.int (-1), .int 0, .ref (A 57)])), ((A 57), .inl (cJ, 60, .inr (.inl (fun _ => 0)))), ((A 58), .inr (3, [.int (-1), .int 0, .ref (A 59)])), ((A 59), .inl (cJ, 60, .inr (.inl (fun _ => 0)))), ((A 0), .inr (9, [.ref (A 1), .ref (A 3), .ref (A 12), .ref (A 21), .int 0, .ref (A 49), .ref (A 51), .ref (A 60), .ref (A 61), .ref (A 62), .ref (A 63), .ref (A 64)])), ((A 51), .inl (cR, 4, .inr (.inr (.inr (.inr (va_up (va_up (va_up (va_up (fun _ => none) 0 (some (A 52))) 1 (some (A 54))) 2 (some (A 56))) 3 (some (A 58)))))))), ((A 54), .inr (3, [.int p3, .int p2, .ref (A 55)])), ((A 55), .inl (cJ, 60, .inr (.inl (fun _ => 0))))]) ⟨hx, hb, hml, hown, hts⟩ (fun _ h => uw_in h) (kX10_row_3 l D cB cI cJ cZ cT cR (B 0) (B 1) (B 2) (B 3) (B 4) (B 5) (B 6) (B 7) (B 8) (B 9) (B 10) (B 11) (B 12) (B 13) (B 14) (B 15) (B 16) (B 17) (B 18) p2 p3 hc2 hc3 hc4 H.size) q_m1316 q_n1317 q_e1318 q_i11 q_c1319 (by decide +kernel) ⟨(Nat.le_of_ble_eq_true rfl), (Nat.le_of_ble_eq_true rfl)⟩ ⟨(Nat.le_of_ble_eq_true rfl), (Nat.le_of_ble_eq_true rfl)⟩ hE hK hP hD hS hA [6, 7, 8, 9] [0, 1, 2, 3, 4, 5, 10, 11, 12, 13] rfl rfl rfl rfl (by decide) 10 0 rfl rfl rfl hl.1 rfl (Nat.le_of_ble_eq_true rfl) dL_law_2218 (fun r9 u H locs hpo hP hD hS => ?_)
            obtain ⟨f7, f8⟩ := u
            have hP : va_P D vwCl [((A 52), .inr (3, [.int (-1), .int 0, .ref (A 53)])), ((A 53), .inl (cJ, 60, .inr (.inl (fun _ => 0)))), ((A 56), .inr (3, [.int (-1), .int 0, .ref (A 57)])), ((A 57), .inl (cJ, 60, .inr (.inl (fun _ => 0)))), ((A 58), .inr (3, [.int (-1), .int 0, .ref (A 59)])), ((A 59), .inl (cJ, 60, .inr (.inl (fun _ => 0)))), ((A 0), .inr (9, [.ref (A 1), .ref (A 3), .ref (A 12), .ref (A 21), .int 0, .ref (A 49), .ref (A 51), .ref (A 60), .ref (A 61), .ref (A 62), .ref (A 63), .ref (A 64)])), ((A 51), .inl (cR, 4, .inr (.inr (.inr (.inr (va_up (va_up (va_up (va_up (fun _ => none) 0 (some (A 52))) 1 (some (A 54))) 2 (some (A 56))) 3 (some (A 58)))))))), ((A 54), .inr (3, [.int p3, .int p2, .ref (A 55)])), ((A 55), .inl (cJ, 60, .inr (.inl (fun _ => 0)))), ((B 0), .inr (10, [.int 0, .ref (B 1), .ref (B 2), .ref (B 3), .ref (B 4), .ref (B 5), .int 0, .int 0, .int 0, .int 0, .int 0, .long 0, .int 0, .int 0, .int 0, .int (-1), .ref (B 6), .ref (B 7), .ref (B 8), .ref (B 9), .ref (B 10), .ref (B 11), .ref (B 12), .ref (B 13), .int 0, .int 0, .ref (B 14), .ref (B 15), .int 0, .int 0, .int 0, .ref (B 16), .ref (B 17), .int 0, .int 0, .int 0, .int 0, .int 0, .ref (B 18), .int 0, .int 0, .int 0])), ((B 1), .inl (cI, 4, .inl f7)), ((B 2), .inl (cI, 4, .inl f8)), ((B 3), .inl (cJ, 240, .inr (.inl (fun _ => 0))))] H := hP
            have hD : va_D (fun q : Nat => s.heap.size ≤ q) [((A 52), .inr (3, [.int (-1), .int 0, .ref (A 53)])), ((A 53), .inl (cJ, 60, .inr (.inl (fun _ => 0)))), ((A 56), .inr (3, [.int (-1), .int 0, .ref (A 57)])), ((A 57), .inl (cJ, 60, .inr (.inl (fun _ => 0)))), ((A 58), .inr (3, [.int (-1), .int 0, .ref (A 59)])), ((A 59), .inl (cJ, 60, .inr (.inl (fun _ => 0)))), ((A 0), .inr (9, [.ref (A 1), .ref (A 3), .ref (A 12), .ref (A 21), .int 0, .ref (A 49), .ref (A 51), .ref (A 60), .ref (A 61), .ref (A 62), .ref (A 63), .ref (A 64)])), ((A 51), .inl (cR, 4, .inr (.inr (.inr (.inr (va_up (va_up (va_up (va_up (fun _ => none) 0 (some (A 52))) 1 (some (A 54))) 2 (some (A 56))) 3 (some (A 58)))))))), ((A 54), .inr (3, [.int p3, .int p2, .ref (A 55)])), ((A 55), .inl (cJ, 60, .inr (.inl (fun _ => 0)))), ((B 0), .inr (10, [.int 0, .ref (B 1), .ref (B 2), .ref (B 3), .ref (B 4), .ref (B 5), .int 0, .int 0, .int 0, .int 0, .int 0, .long 0, .int 0, .int 0, .int 0, .int (-1), .ref (B 6), .ref (B 7), .ref (B 8), .ref (B 9), .ref (B 10), .ref (B 11), .ref (B 12), .ref (B 13), .int 0, .int 0, .ref (B 14), .ref (B 15), .int 0, .int 0, .int 0, .ref (B 16), .ref (B 17), .int 0, .int 0, .int 0, .int 0, .int 0, .ref (B 18), .int 0, .int 0, .int 0])), ((B 1), .inl (cI, 4, .inl f7)), ((B 2), .inl (cI, 4, .inl f8)), ((B 3), .inl (cJ, 240, .inr (.inl (fun _ => 0))))] := hD
            refine W.cs (cells' := 180) (slots' := 4779) rfl rfl ?_
            have hpo : r9 = 0 := hpo
            subst hpo
            refine lv_icmp_eq (tgt := 2362) hx hb dL_law_2221 (by decide) (fun _ => ?_) (fun c9 => absurd (by decide) c9)
            exact law_end C0 hS (Nat.le_of_ble_eq_true rfl) (Nat.le_of_ble_eq_true rfl) ls hl
          · subst e9
            refine cvM (n := 3) (As := [.int 2, .int p2, .int p3]) (rest := []) (wr := [((A 52), .inr (3, [.int (-1), .int 0, .ref (A 53)])), ((A 53), .inl (cJ, 60, .inr (.inl (fun _ => 0)))), ((A 54), .inr (3, [.int (-1), .int 0, .ref (A 55)])), ((A 55), .inl (cJ, 60, .inr (.inl (fun _ => 0)))), ((A 58), .inr (3, [.int (-1), .int 0, .ref (A 59)])), ((A 59), .inl (cJ, 60, .inr (.inl (fun _ => 0)))), ((B 0), .inr (10, [.int 0, .ref (B 1), .ref (B 2), .ref (B 3), .ref (B 4), .ref (B 5), .int 0, .int 0, .int 0, .int 0, .int 0, .long 0, .int 0, .int 0, .int 0, .int (-1), .ref (B 6), .ref (B 7), .ref (B 8), .ref (B 9), .ref (B 10), .ref (B 11), .ref (B 12), .ref (B 13), .int 0, .int 0, .ref (B 14), .ref (B 15), .int 0, .int 0, .int 0, .ref (B 16), .ref (B 17), .int 0, .int 0, .int 0, .int 0, .int 0, .ref (B 18), .int 0, .int 0, .int 0])), ((B 1), .inl (cI, 4, .inl (fun _ => (-1)))), ((B 2), .inl (cI, 4, .inl (fun _ => 0))), ((B 3), .inl (cJ, 240, .inr (.inl (fun _ => 0))))]) ⟨hx, hb, hml, hown, hts⟩ (fun _ h => uw_in h) (kX9_row_4 l D cB cI cJ cZ cT cR (A 0) (A 51) (A 56) (A 57) (A 1) (A 3) (A 12) (A 21) (A 49) (A 60) (A 61) (A 62) (A 63) (A 64) (A 52) (A 54) (A 58) p2 p3 hc2 hc3 hc4 H.size) q_m1158 q_n1159 q_e1160 q_i1 q_c1161 (by decide +kernel) ⟨(Nat.le_of_ble_eq_true rfl), (Nat.le_of_ble_eq_true rfl)⟩ ⟨(Nat.le_of_ble_eq_true rfl), (Nat.le_of_ble_eq_true rfl)⟩ hE hK hP hD hS hA [0, 1, 6, 7] [2, 3, 4, 5, 8, 9, 10, 11, 12, 13] rfl rfl rfl rfl (by decide) 9 0 rfl rfl rfl hl.1 rfl (Nat.le_of_ble_eq_true rfl) dL_law_2199 (fun r9 u H locs hpo hP hD hS => ?_)
            have hP : va_P D vwCl [((A 52), .inr (3, [.int (-1), .int 0, .ref (A 53)])), ((A 53), .inl (cJ, 60, .inr (.inl (fun _ => 0)))), ((A 54), .inr (3, [.int (-1), .int 0, .ref (A 55)])), ((A 55), .inl (cJ, 60, .inr (.inl (fun _ => 0)))), ((A 58), .inr (3, [.int (-1), .int 0, .ref (A 59)])), ((A 59), .inl (cJ, 60, .inr (.inl (fun _ => 0)))), ((B 0), .inr (10, [.int 0, .ref (B 1), .ref (B 2), .ref (B 3), .ref (B 4), .ref (B 5), .int 0, .int 0, .int 0, .int 0, .int 0, .long 0, .int 0, .int 0, .int 0, .int (-1), .ref (B 6), .ref (B 7), .ref (B 8), .ref (B 9), .ref (B 10), .ref (B 11), .ref (B 12), .ref (B 13), .int 0, .int 0, .ref (B 14), .ref (B 15), .int 0, .int 0, .int 0, .ref (B 16), .ref (B 17), .int 0, .int 0, .int 0, .int 0, .int 0, .ref (B 18), .int 0, .int 0, .int 0])), ((B 1), .inl (cI, 4, .inl (fun _ => (-1)))), ((B 2), .inl (cI, 4, .inl (fun _ => 0))), ((B 3), .inl (cJ, 240, .inr (.inl (fun _ => 0)))), ((A 0), .inr (9, [.ref (A 1), .ref (A 3), .ref (A 12), .ref (A 21), .int 0, .ref (A 49), .ref (A 51), .ref (A 60), .ref (A 61), .ref (A 62), .ref (A 63), .ref (A 64)])), ((A 51), .inl (cR, 4, .inr (.inr (.inr (.inr (va_up (va_up (va_up (va_up (fun _ => none) 0 (some (A 52))) 1 (some (A 54))) 2 (some (A 56))) 3 (some (A 58)))))))), ((A 56), .inr (3, [.int p3, .int p2, .ref (A 57)])), ((A 57), .inl (cJ, 60, .inr (.inl (fun _ => 0))))] H := hP
            have hD : va_D (fun q : Nat => s.heap.size ≤ q) [((A 52), .inr (3, [.int (-1), .int 0, .ref (A 53)])), ((A 53), .inl (cJ, 60, .inr (.inl (fun _ => 0)))), ((A 54), .inr (3, [.int (-1), .int 0, .ref (A 55)])), ((A 55), .inl (cJ, 60, .inr (.inl (fun _ => 0)))), ((A 58), .inr (3, [.int (-1), .int 0, .ref (A 59)])), ((A 59), .inl (cJ, 60, .inr (.inl (fun _ => 0)))), ((B 0), .inr (10, [.int 0, .ref (B 1), .ref (B 2), .ref (B 3), .ref (B 4), .ref (B 5), .int 0, .int 0, .int 0, .int 0, .int 0, .long 0, .int 0, .int 0, .int 0, .int (-1), .ref (B 6), .ref (B 7), .ref (B 8), .ref (B 9), .ref (B 10), .ref (B 11), .ref (B 12), .ref (B 13), .int 0, .int 0, .ref (B 14), .ref (B 15), .int 0, .int 0, .int 0, .ref (B 16), .ref (B 17), .int 0, .int 0, .int 0, .int 0, .int 0, .ref (B 18), .int 0, .int 0, .int 0])), ((B 1), .inl (cI, 4, .inl (fun _ => (-1)))), ((B 2), .inl (cI, 4, .inl (fun _ => 0))), ((B 3), .inl (cJ, 240, .inr (.inl (fun _ => 0)))), ((A 0), .inr (9, [.ref (A 1), .ref (A 3), .ref (A 12), .ref (A 21), .int 0, .ref (A 49), .ref (A 51), .ref (A 60), .ref (A 61), .ref (A 62), .ref (A 63), .ref (A 64)])), ((A 51), .inl (cR, 4, .inr (.inr (.inr (.inr (va_up (va_up (va_up (va_up (fun _ => none) 0 (some (A 52))) 1 (some (A 54))) 2 (some (A 56))) 3 (some (A 58)))))))), ((A 56), .inr (3, [.int p3, .int p2, .ref (A 57)])), ((A 57), .inl (cJ, 60, .inr (.inl (fun _ => 0))))] := hD
            refine W.cs (cells' := 180) (slots' := 4779) rfl rfl ?_
            have hpo : r9 = 0 := hpo
            subst hpo
            refine lv_aload_n hx hb dL_law_2202 rfl (lv_at hl 1 rfl) ?_
            refine lv_aload_n hx hb dL_law_2203 rfl (lv_at hl 3 rfl) ?_
            refine lv_iload_n hx hb dL_law_2204 rfl (lv_at hl 0 rfl) ?_
            refine lv_iconst (v := 1) hx hb dL_law_2205 (by decide) ?_
            refine lv_iadd hx hb dL_law_2206 ?_
            refine pv_i (v := 1) (by decide) ?_
            refine va_sld hx hb hX hbl hbA hS (vp_in_iff.mpr ⟨by decide, by decide⟩) dL_law_2207 ?_
            refine pv_i (v := 2) ep1.symm ?_
            refine lv_aload_n hx hb dL_law_2208 rfl (lv_at hl 3 rfl) ?_
            refine lv_iload_n hx hb dL_law_2209 rfl (lv_at hl 0 rfl) ?_
            refine lv_iconst (v := 2) hx hb dL_law_2210 (by decide) ?_
            refine lv_iadd hx hb dL_law_2211 ?_
            refine pv_i (v := 2) (by decide) ?_
            refine va_sld hx hb hX hbl hbA hS (vp_in_iff.mpr ⟨by decide, by decide⟩) dL_law_2212 ?_
            refine pv_i (v := p2) ep2.symm ?_
            refine lv_aload_n hx hb dL_law_2213 rfl (lv_at hl 3 rfl) ?_
            refine lv_iload_n hx hb dL_law_2214 rfl (lv_at hl 0 rfl) ?_
            refine lv_iconst (v := 3) hx hb dL_law_2215 (by decide) ?_
            refine lv_iadd hx hb dL_law_2216 ?_
            refine pv_i (v := 3) (by decide) ?_
            refine va_sld hx hb hX hbl hbA hS (vp_in_iff.mpr ⟨by decide, by decide⟩) dL_law_2217 ?_
            refine pv_i (v := p3) ep3.symm ?_
            refine cvM (n := 3) (As := [.int 2, .int p2, .int p3]) (rest := [.int 0]) (wr := [((A 52), .inr (3, [.int (-1), .int 0, .ref (A 53)])), ((A 53), .inl (cJ, 60, .inr (.inl (fun _ => 0)))), ((A 54), .inr (3, [.int (-1), .int 0, .ref (A 55)])), ((A 55), .inl (cJ, 60, .inr (.inl (fun _ => 0)))), ((A 58), .inr (3, [.int (-1), .int 0, .ref (A 59)])), ((A 59), .inl (cJ, 60, .inr (.inl (fun _ => 0)))), ((A 0), .inr (9, [.ref (A 1), .ref (A 3), .ref (A 12), .ref (A 21), .int 0, .ref (A 49), .ref (A 51), .ref (A 60), .ref (A 61), .ref (A 62), .ref (A 63), .ref (A 64)])), ((A 51), .inl (cR, 4, .inr (.inr (.inr (.inr (va_up (va_up (va_up (va_up (fun _ => none) 0 (some (A 52))) 1 (some (A 54))) 2 (some (A 56))) 3 (some (A 58)))))))), ((A 56), .inr (3, [.int p3, .int p2, .ref (A 57)])), ((A 57), .inl (cJ, 60, .inr (.inl (fun _ => 0))))]) ⟨hx, hb, hml, hown, hts⟩ (fun _ h => uw_in h) (kX10_row_4 l D cB cI cJ cZ cT cR (B 0) (B 1) (B 2) (B 3) (B 4) (B 5) (B 6) (B 7) (B 8) (B 9) (B 10) (B 11) (B 12) (B 13) (B 14) (B 15) (B 16) (B 17) (B 18) p2 p3 hc2 hc3 hc4 H.size) q_m1316 q_n1317 q_e1318 q_i11 q_c1319 (by decide +kernel) ⟨(Nat.le_of_ble_eq_true rfl), (Nat.le_of_ble_eq_true rfl)⟩ ⟨(Nat.le_of_ble_eq_true rfl), (Nat.le_of_ble_eq_true rfl)⟩ hE hK hP hD hS hA [6, 7, 8, 9] [0, 1, 2, 3, 4, 5, 10, 11, 12, 13] rfl rfl rfl rfl (by decide) 10 0 rfl rfl rfl hl.1 rfl (Nat.le_of_ble_eq_true rfl) dL_law_2218 (fun r9 u H locs hpo hP hD hS => ?_)
            obtain ⟨f9, f10⟩ := u
            have hP : va_P D vwCl [((A 52), .inr (3, [.int (-1), .int 0, .ref (A 53)])), ((A 53), .inl (cJ, 60, .inr (.inl (fun _ => 0)))), ((A 54), .inr (3, [.int (-1), .int 0, .ref (A 55)])), ((A 55), .inl (cJ, 60, .inr (.inl (fun _ => 0)))), ((A 58), .inr (3, [.int (-1), .int 0, .ref (A 59)])), ((A 59), .inl (cJ, 60, .inr (.inl (fun _ => 0)))), ((A 0), .inr (9, [.ref (A 1), .ref (A 3), .ref (A 12), .ref (A 21), .int 0, .ref (A 49), .ref (A 51), .ref (A 60), .ref (A 61), .ref (A 62), .ref (A 63), .ref (A 64)])), ((A 51), .inl (cR, 4, .inr (.inr (.inr (.inr (va_up (va_up (va_up (va_up (fun _ => none) 0 (some (A 52))) 1 (some (A 54))) 2 (some (A 56))) 3 (some (A 58)))))))), ((A 56), .inr (3, [.int p3, .int p2, .ref (A 57)])), ((A 57), .inl (cJ, 60, .inr (.inl (fun _ => 0)))), ((B 0), .inr (10, [.int 0, .ref (B 1), .ref (B 2), .ref (B 3), .ref (B 4), .ref (B 5), .int 0, .int 0, .int 0, .int 0, .int 0, .long 0, .int 0, .int 0, .int 0, .int (-1), .ref (B 6), .ref (B 7), .ref (B 8), .ref (B 9), .ref (B 10), .ref (B 11), .ref (B 12), .ref (B 13), .int 0, .int 0, .ref (B 14), .ref (B 15), .int 0, .int 0, .int 0, .ref (B 16), .ref (B 17), .int 0, .int 0, .int 0, .int 0, .int 0, .ref (B 18), .int 0, .int 0, .int 0])), ((B 1), .inl (cI, 4, .inl f9)), ((B 2), .inl (cI, 4, .inl f10)), ((B 3), .inl (cJ, 240, .inr (.inl (fun _ => 0))))] H := hP
            have hD : va_D (fun q : Nat => s.heap.size ≤ q) [((A 52), .inr (3, [.int (-1), .int 0, .ref (A 53)])), ((A 53), .inl (cJ, 60, .inr (.inl (fun _ => 0)))), ((A 54), .inr (3, [.int (-1), .int 0, .ref (A 55)])), ((A 55), .inl (cJ, 60, .inr (.inl (fun _ => 0)))), ((A 58), .inr (3, [.int (-1), .int 0, .ref (A 59)])), ((A 59), .inl (cJ, 60, .inr (.inl (fun _ => 0)))), ((A 0), .inr (9, [.ref (A 1), .ref (A 3), .ref (A 12), .ref (A 21), .int 0, .ref (A 49), .ref (A 51), .ref (A 60), .ref (A 61), .ref (A 62), .ref (A 63), .ref (A 64)])), ((A 51), .inl (cR, 4, .inr (.inr (.inr (.inr (va_up (va_up (va_up (va_up (fun _ => none) 0 (some (A 52))) 1 (some (A 54))) 2 (some (A 56))) 3 (some (A 58)))))))), ((A 56), .inr (3, [.int p3, .int p2, .ref (A 57)])), ((A 57), .inl (cJ, 60, .inr (.inl (fun _ => 0)))), ((B 0), .inr (10, [.int 0, .ref (B 1), .ref (B 2), .ref (B 3), .ref (B 4), .ref (B 5), .int 0, .int 0, .int 0, .int 0, .int 0, .long 0, .int 0, .int 0, .int 0, .int (-1), .ref (B 6), .ref (B 7), .ref (B 8), .ref (B 9), .ref (B 10), .ref (B 11), .ref (B 12), .ref (B 13), .int 0, .int 0, .ref (B 14), .ref (B 15), .int 0, .int 0, .int 0, .ref (B 16), .ref (B 17), .int 0, .int 0, .int 0, .int 0, .int 0, .ref (B 18), .int 0, .int 0, .int 0])), ((B 1), .inl (cI, 4, .inl f9)), ((B 2), .inl (cI, 4, .inl f10)), ((B 3), .inl (cJ, 240, .inr (.inl (fun _ => 0))))] := hD
            refine W.cs (cells' := 180) (slots' := 4779) rfl rfl ?_
            have hpo : r9 = 0 := hpo
            subst hpo
            refine lv_icmp_eq (tgt := 2362) hx hb dL_law_2221 (by decide) (fun _ => ?_) (fun c9 => absurd (by decide) c9)
            exact law_end C0 hS (Nat.le_of_ble_eq_true rfl) (Nat.le_of_ble_eq_true rfl) ls hl
          · subst e9
            refine cvM (n := 3) (As := [.int 3, .int p2, .int p3]) (rest := []) (wr := [((A 52), .inr (3, [.int (-1), .int 0, .ref (A 53)])), ((A 53), .inl (cJ, 60, .inr (.inl (fun _ => 0)))), ((A 54), .inr (3, [.int (-1), .int 0, .ref (A 55)])), ((A 55), .inl (cJ, 60, .inr (.inl (fun _ => 0)))), ((A 56), .inr (3, [.int (-1), .int 0, .ref (A 57)])), ((A 57), .inl (cJ, 60, .inr (.inl (fun _ => 0)))), ((B 0), .inr (10, [.int 0, .ref (B 1), .ref (B 2), .ref (B 3), .ref (B 4), .ref (B 5), .int 0, .int 0, .int 0, .int 0, .int 0, .long 0, .int 0, .int 0, .int 0, .int (-1), .ref (B 6), .ref (B 7), .ref (B 8), .ref (B 9), .ref (B 10), .ref (B 11), .ref (B 12), .ref (B 13), .int 0, .int 0, .ref (B 14), .ref (B 15), .int 0, .int 0, .int 0, .ref (B 16), .ref (B 17), .int 0, .int 0, .int 0, .int 0, .int 0, .ref (B 18), .int 0, .int 0, .int 0])), ((B 1), .inl (cI, 4, .inl (fun _ => (-1)))), ((B 2), .inl (cI, 4, .inl (fun _ => 0))), ((B 3), .inl (cJ, 240, .inr (.inl (fun _ => 0))))]) ⟨hx, hb, hml, hown, hts⟩ (fun _ h => uw_in h) (kX9_row_5 l D cB cI cJ cZ cT cR (A 0) (A 51) (A 58) (A 59) (A 1) (A 3) (A 12) (A 21) (A 49) (A 60) (A 61) (A 62) (A 63) (A 64) (A 52) (A 54) (A 56) p2 p3 hc2 hc3 hc4 H.size) q_m1158 q_n1159 q_e1160 q_i1 q_c1161 (by decide +kernel) ⟨(Nat.le_of_ble_eq_true rfl), (Nat.le_of_ble_eq_true rfl)⟩ ⟨(Nat.le_of_ble_eq_true rfl), (Nat.le_of_ble_eq_true rfl)⟩ hE hK hP hD hS hA [0, 1, 8, 9] [2, 3, 4, 5, 6, 7, 10, 11, 12, 13] rfl rfl rfl rfl (by decide) 9 0 rfl rfl rfl hl.1 rfl (Nat.le_of_ble_eq_true rfl) dL_law_2199 (fun r9 u H locs hpo hP hD hS => ?_)
            have hP : va_P D vwCl [((A 52), .inr (3, [.int (-1), .int 0, .ref (A 53)])), ((A 53), .inl (cJ, 60, .inr (.inl (fun _ => 0)))), ((A 54), .inr (3, [.int (-1), .int 0, .ref (A 55)])), ((A 55), .inl (cJ, 60, .inr (.inl (fun _ => 0)))), ((A 56), .inr (3, [.int (-1), .int 0, .ref (A 57)])), ((A 57), .inl (cJ, 60, .inr (.inl (fun _ => 0)))), ((B 0), .inr (10, [.int 0, .ref (B 1), .ref (B 2), .ref (B 3), .ref (B 4), .ref (B 5), .int 0, .int 0, .int 0, .int 0, .int 0, .long 0, .int 0, .int 0, .int 0, .int (-1), .ref (B 6), .ref (B 7), .ref (B 8), .ref (B 9), .ref (B 10), .ref (B 11), .ref (B 12), .ref (B 13), .int 0, .int 0, .ref (B 14), .ref (B 15), .int 0, .int 0, .int 0, .ref (B 16), .ref (B 17), .int 0, .int 0, .int 0, .int 0, .int 0, .ref (B 18), .int 0, .int 0, .int 0])), ((B 1), .inl (cI, 4, .inl (fun _ => (-1)))), ((B 2), .inl (cI, 4, .inl (fun _ => 0))), ((B 3), .inl (cJ, 240, .inr (.inl (fun _ => 0)))), ((A 0), .inr (9, [.ref (A 1), .ref (A 3), .ref (A 12), .ref (A 21), .int 0, .ref (A 49), .ref (A 51), .ref (A 60), .ref (A 61), .ref (A 62), .ref (A 63), .ref (A 64)])), ((A 51), .inl (cR, 4, .inr (.inr (.inr (.inr (va_up (va_up (va_up (va_up (fun _ => none) 0 (some (A 52))) 1 (some (A 54))) 2 (some (A 56))) 3 (some (A 58)))))))), ((A 58), .inr (3, [.int p3, .int p2, .ref (A 59)])), ((A 59), .inl (cJ, 60, .inr (.inl (fun _ => 0))))] H := hP
            have hD : va_D (fun q : Nat => s.heap.size ≤ q) [((A 52), .inr (3, [.int (-1), .int 0, .ref (A 53)])), ((A 53), .inl (cJ, 60, .inr (.inl (fun _ => 0)))), ((A 54), .inr (3, [.int (-1), .int 0, .ref (A 55)])), ((A 55), .inl (cJ, 60, .inr (.inl (fun _ => 0)))), ((A 56), .inr (3, [.int (-1), .int 0, .ref (A 57)])), ((A 57), .inl (cJ, 60, .inr (.inl (fun _ => 0)))), ((B 0), .inr (10, [.int 0, .ref (B 1), .ref (B 2), .ref (B 3), .ref (B 4), .ref (B 5), .int 0, .int 0, .int 0, .int 0, .int 0, .long 0, .int 0, .int 0, .int 0, .int (-1), .ref (B 6), .ref (B 7), .ref (B 8), .ref (B 9), .ref (B 10), .ref (B 11), .ref (B 12), .ref (B 13), .int 0, .int 0, .ref (B 14), .ref (B 15), .int 0, .int 0, .int 0, .ref (B 16), .ref (B 17), .int 0, .int 0, .int 0, .int 0, .int 0, .ref (B 18), .int 0, .int 0, .int 0])), ((B 1), .inl (cI, 4, .inl (fun _ => (-1)))), ((B 2), .inl (cI, 4, .inl (fun _ => 0))), ((B 3), .inl (cJ, 240, .inr (.inl (fun _ => 0)))), ((A 0), .inr (9, [.ref (A 1), .ref (A 3), .ref (A 12), .ref (A 21), .int 0, .ref (A 49), .ref (A 51), .ref (A 60), .ref (A 61), .ref (A 62), .ref (A 63), .ref (A 64)])), ((A 51), .inl (cR, 4, .inr (.inr (.inr (.inr (va_up (va_up (va_up (va_up (fun _ => none) 0 (some (A 52))) 1 (some (A 54))) 2 (some (A 56))) 3 (some (A 58)))))))), ((A 58), .inr (3, [.int p3, .int p2, .ref (A 59)])), ((A 59), .inl (cJ, 60, .inr (.inl (fun _ => 0))))] := hD
            refine W.cs (cells' := 180) (slots' := 4779) rfl rfl ?_
            have hpo : r9 = 0 := hpo
            subst hpo
            refine lv_aload_n hx hb dL_law_2202 rfl (lv_at hl 1 rfl) ?_
            refine lv_aload_n hx hb dL_law_2203 rfl (lv_at hl 3 rfl) ?_
            refine lv_iload_n hx hb dL_law_2204 rfl (lv_at hl 0 rfl) ?_
            refine lv_iconst (v := 1) hx hb dL_law_2205 (by decide) ?_
            refine lv_iadd hx hb dL_law_2206 ?_
            refine pv_i (v := 1) (by decide) ?_
            refine va_sld hx hb hX hbl hbA hS (vp_in_iff.mpr ⟨by decide, by decide⟩) dL_law_2207 ?_
            refine pv_i (v := 3) ep1.symm ?_
            refine lv_aload_n hx hb dL_law_2208 rfl (lv_at hl 3 rfl) ?_
            refine lv_iload_n hx hb dL_law_2209 rfl (lv_at hl 0 rfl) ?_
            refine lv_iconst (v := 2) hx hb dL_law_2210 (by decide) ?_
            refine lv_iadd hx hb dL_law_2211 ?_
            refine pv_i (v := 2) (by decide) ?_
            refine va_sld hx hb hX hbl hbA hS (vp_in_iff.mpr ⟨by decide, by decide⟩) dL_law_2212 ?_
            refine pv_i (v := p2) ep2.symm ?_
            refine lv_aload_n hx hb dL_law_2213 rfl (lv_at hl 3 rfl) ?_
            refine lv_iload_n hx hb dL_law_2214 rfl (lv_at hl 0 rfl) ?_
            refine lv_iconst (v := 3) hx hb dL_law_2215 (by decide) ?_
            refine lv_iadd hx hb dL_law_2216 ?_
            refine pv_i (v := 3) (by decide) ?_
            refine va_sld hx hb hX hbl hbA hS (vp_in_iff.mpr ⟨by decide, by decide⟩) dL_law_2217 ?_
            refine pv_i (v := p3) ep3.symm ?_
            refine cvM (n := 3) (As := [.int 3, .int p2, .int p3]) (rest := [.int 0]) (wr := [((A 52), .inr (3, [.int (-1), .int 0, .ref (A 53)])), ((A 53), .inl (cJ, 60, .inr (.inl (fun _ => 0)))), ((A 54), .inr (3, [.int (-1), .int 0, .ref (A 55)])), ((A 55), .inl (cJ, 60, .inr (.inl (fun _ => 0)))), ((A 56), .inr (3, [.int (-1), .int 0, .ref (A 57)])), ((A 57), .inl (cJ, 60, .inr (.inl (fun _ => 0)))), ((A 0), .inr (9, [.ref (A 1), .ref (A 3), .ref (A 12), .ref (A 21), .int 0, .ref (A 49), .ref (A 51), .ref (A 60), .ref (A 61), .ref (A 62), .ref (A 63), .ref (A 64)])), ((A 51), .inl (cR, 4, .inr (.inr (.inr (.inr (va_up (va_up (va_up (va_up (fun _ => none) 0 (some (A 52))) 1 (some (A 54))) 2 (some (A 56))) 3 (some (A 58)))))))), ((A 58), .inr (3, [.int p3, .int p2, .ref (A 59)])), ((A 59), .inl (cJ, 60, .inr (.inl (fun _ => 0))))]) ⟨hx, hb, hml, hown, hts⟩ (fun _ h => uw_in h) (kX10_row_5 l D cB cI cJ cZ cT cR (B 0) (B 1) (B 2) (B 3) (B 4) (B 5) (B 6) (B 7) (B 8) (B 9) (B 10) (B 11) (B 12) (B 13) (B 14) (B 15) (B 16) (B 17) (B 18) p2 p3 hc2 hc3 hc4 H.size) q_m1316 q_n1317 q_e1318 q_i11 q_c1319 (by decide +kernel) ⟨(Nat.le_of_ble_eq_true rfl), (Nat.le_of_ble_eq_true rfl)⟩ ⟨(Nat.le_of_ble_eq_true rfl), (Nat.le_of_ble_eq_true rfl)⟩ hE hK hP hD hS hA [6, 7, 8, 9] [0, 1, 2, 3, 4, 5, 10, 11, 12, 13] rfl rfl rfl rfl (by decide) 10 0 rfl rfl rfl hl.1 rfl (Nat.le_of_ble_eq_true rfl) dL_law_2218 (fun r9 u H locs hpo hP hD hS => ?_)
            obtain ⟨f11, f12⟩ := u
            have hP : va_P D vwCl [((A 52), .inr (3, [.int (-1), .int 0, .ref (A 53)])), ((A 53), .inl (cJ, 60, .inr (.inl (fun _ => 0)))), ((A 54), .inr (3, [.int (-1), .int 0, .ref (A 55)])), ((A 55), .inl (cJ, 60, .inr (.inl (fun _ => 0)))), ((A 56), .inr (3, [.int (-1), .int 0, .ref (A 57)])), ((A 57), .inl (cJ, 60, .inr (.inl (fun _ => 0)))), ((A 0), .inr (9, [.ref (A 1), .ref (A 3), .ref (A 12), .ref (A 21), .int 0, .ref (A 49), .ref (A 51), .ref (A 60), .ref (A 61), .ref (A 62), .ref (A 63), .ref (A 64)])), ((A 51), .inl (cR, 4, .inr (.inr (.inr (.inr (va_up (va_up (va_up (va_up (fun _ => none) 0 (some (A 52))) 1 (some (A 54))) 2 (some (A 56))) 3 (some (A 58)))))))), ((A 58), .inr (3, [.int p3, .int p2, .ref (A 59)])), ((A 59), .inl (cJ, 60, .inr (.inl (fun _ => 0)))), ((B 0), .inr (10, [.int 0, .ref (B 1), .ref (B 2), .ref (B 3), .ref (B 4), .ref (B 5), .int 0, .int 0, .int 0, .int 0, .int 0, .long 0, .int 0, .int 0, .int 0, .int (-1), .ref (B 6), .ref (B 7), .ref (B 8), .ref (B 9), .ref (B 10), .ref (B 11), .ref (B 12), .ref (B 13), .int 0, .int 0, .ref (B 14), .ref (B 15), .int 0, .int 0, .int 0, .ref (B 16), .ref (B 17), .int 0, .int 0, .int 0, .int 0, .int 0, .ref (B 18), .int 0, .int 0, .int 0])), ((B 1), .inl (cI, 4, .inl f11)), ((B 2), .inl (cI, 4, .inl f12)), ((B 3), .inl (cJ, 240, .inr (.inl (fun _ => 0))))] H := hP
            have hD : va_D (fun q : Nat => s.heap.size ≤ q) [((A 52), .inr (3, [.int (-1), .int 0, .ref (A 53)])), ((A 53), .inl (cJ, 60, .inr (.inl (fun _ => 0)))), ((A 54), .inr (3, [.int (-1), .int 0, .ref (A 55)])), ((A 55), .inl (cJ, 60, .inr (.inl (fun _ => 0)))), ((A 56), .inr (3, [.int (-1), .int 0, .ref (A 57)])), ((A 57), .inl (cJ, 60, .inr (.inl (fun _ => 0)))), ((A 0), .inr (9, [.ref (A 1), .ref (A 3), .ref (A 12), .ref (A 21), .int 0, .ref (A 49), .ref (A 51), .ref (A 60), .ref (A 61), .ref (A 62), .ref (A 63), .ref (A 64)])), ((A 51), .inl (cR, 4, .inr (.inr (.inr (.inr (va_up (va_up (va_up (va_up (fun _ => none) 0 (some (A 52))) 1 (some (A 54))) 2 (some (A 56))) 3 (some (A 58)))))))), ((A 58), .inr (3, [.int p3, .int p2, .ref (A 59)])), ((A 59), .inl (cJ, 60, .inr (.inl (fun _ => 0)))), ((B 0), .inr (10, [.int 0, .ref (B 1), .ref (B 2), .ref (B 3), .ref (B 4), .ref (B 5), .int 0, .int 0, .int 0, .int 0, .int 0, .long 0, .int 0, .int 0, .int 0, .int (-1), .ref (B 6), .ref (B 7), .ref (B 8), .ref (B 9), .ref (B 10), .ref (B 11), .ref (B 12), .ref (B 13), .int 0, .int 0, .ref (B 14), .ref (B 15), .int 0, .int 0, .int 0, .ref (B 16), .ref (B 17), .int 0, .int 0, .int 0, .int 0, .int 0, .ref (B 18), .int 0, .int 0, .int 0])), ((B 1), .inl (cI, 4, .inl f11)), ((B 2), .inl (cI, 4, .inl f12)), ((B 3), .inl (cJ, 240, .inr (.inl (fun _ => 0))))] := hD
            refine W.cs (cells' := 180) (slots' := 4779) rfl rfl ?_
            have hpo : r9 = 0 := hpo
            subst hpo
            refine lv_icmp_eq (tgt := 2362) hx hb dL_law_2221 (by decide) (fun _ => ?_) (fun c9 => absurd (by decide) c9)
            exact law_end C0 hS (Nat.le_of_ble_eq_true rfl) (Nat.le_of_ble_eq_true rfl) ls hl
    · refine cvR (n := 3) (As := [.int p1, .int p2, .int p3]) (rest := []) ⟨hx, hb, hml, hown, hts⟩ (fun _ h => uw_in h) (kX9_row_6 l D cB cI cJ cZ cT cR (A 0) (A 1) (A 3) (A 12) (A 21) (A 49) (A 51) (A 60) (A 61) (A 62) (A 63) (A 64) p1 p2 p3 hc1 hc2) q_m1158 q_n1159 q_e1160 q_i1 q_c1161 (by decide +kernel) ⟨(Nat.le_of_ble_eq_true rfl), (Nat.le_of_ble_eq_true rfl)⟩ ⟨(Nat.le_of_ble_eq_true rfl), (Nat.le_of_ble_eq_true rfl)⟩ hK (hP.sub (ws' := [((A 0), .inr (9, [.ref (A 1), .ref (A 3), .ref (A 12), .ref (A 21), .int 0, .ref (A 49), .ref (A 51), .ref (A 60), .ref (A 61), .ref (A 62), .ref (A 63), .ref (A 64)]))]) [0] rfl) 9 0 rfl rfl rfl hl.1 rfl (Nat.le_of_ble_eq_true rfl) dL_law_2199 ?_
      refine lv_aload_n hx hb dL_law_2202 rfl (lv_at hl 1 rfl) ?_
      refine lv_aload_n hx hb dL_law_2203 rfl (lv_at hl 3 rfl) ?_
      refine lv_iload_n hx hb dL_law_2204 rfl (lv_at hl 0 rfl) ?_
      refine lv_iconst (v := 1) hx hb dL_law_2205 (by decide) ?_
      refine lv_iadd hx hb dL_law_2206 ?_
      refine pv_i (v := 1) (by decide) ?_
      refine va_sld hx hb hX hbl hbA hS (vp_in_iff.mpr ⟨by decide, by decide⟩) dL_law_2207 ?_
      refine pv_i (v := p1) ep1.symm ?_
      refine lv_aload_n hx hb dL_law_2208 rfl (lv_at hl 3 rfl) ?_
      refine lv_iload_n hx hb dL_law_2209 rfl (lv_at hl 0 rfl) ?_
      refine lv_iconst (v := 2) hx hb dL_law_2210 (by decide) ?_
      refine lv_iadd hx hb dL_law_2211 ?_
      refine pv_i (v := 2) (by decide) ?_
      refine va_sld hx hb hX hbl hbA hS (vp_in_iff.mpr ⟨by decide, by decide⟩) dL_law_2212 ?_
      refine pv_i (v := p2) ep2.symm ?_
      refine lv_aload_n hx hb dL_law_2213 rfl (lv_at hl 3 rfl) ?_
      refine lv_iload_n hx hb dL_law_2214 rfl (lv_at hl 0 rfl) ?_
      refine lv_iconst (v := 3) hx hb dL_law_2215 (by decide) ?_
      refine lv_iadd hx hb dL_law_2216 ?_
      refine pv_i (v := 3) (by decide) ?_
      refine va_sld hx hb hX hbl hbA hS (vp_in_iff.mpr ⟨by decide, by decide⟩) dL_law_2217 ?_
      refine pv_i (v := p3) ep3.symm ?_
      refine cvM (n := 3) (As := [.int p1, .int p2, .int p3]) (rest := [.int (-2)]) (wr := [((A 0), .inr (9, [.ref (A 1), .ref (A 3), .ref (A 12), .ref (A 21), .int 0, .ref (A 49), .ref (A 51), .ref (A 60), .ref (A 61), .ref (A 62), .ref (A 63), .ref (A 64)])), ((A 51), .inl (cR, 4, .inr (.inr (.inr (.inr (va_up (va_up (va_up (va_up (fun _ => none) 0 (some (A 52))) 1 (some (A 54))) 2 (some (A 56))) 3 (some (A 58)))))))), ((A 52), .inr (3, [.int (-1), .int 0, .ref (A 53)])), ((A 53), .inl (cJ, 60, .inr (.inl (fun _ => 0)))), ((A 54), .inr (3, [.int (-1), .int 0, .ref (A 55)])), ((A 55), .inl (cJ, 60, .inr (.inl (fun _ => 0)))), ((A 56), .inr (3, [.int (-1), .int 0, .ref (A 57)])), ((A 57), .inl (cJ, 60, .inr (.inl (fun _ => 0)))), ((A 58), .inr (3, [.int (-1), .int 0, .ref (A 59)])), ((A 59), .inl (cJ, 60, .inr (.inl (fun _ => 0)))), ((B 1), .inl (cI, 4, .inl (fun _ => (-1)))), ((B 2), .inl (cI, 4, .inl (fun _ => 0))), ((B 3), .inl (cJ, 240, .inr (.inl (fun _ => 0))))]) ⟨hx, hb, hml, hown, hts⟩ (fun _ h => uw_in h) (kX10_row_6 l D cB cI cJ cZ cT cR (B 0) (B 1) (B 2) (B 3) (B 4) (B 5) (B 6) (B 7) (B 8) (B 9) (B 10) (B 11) (B 12) (B 13) (B 14) (B 15) (B 16) (B 17) (B 18) p1 p2 p3 hc1 hc2 H.size) q_m1316 q_n1317 q_e1318 q_i11 q_c1319 (by decide +kernel) ⟨(Nat.le_of_ble_eq_true rfl), (Nat.le_of_ble_eq_true rfl)⟩ ⟨(Nat.le_of_ble_eq_true rfl), (Nat.le_of_ble_eq_true rfl)⟩ hE hK hP hD hS hA [10] [0, 1, 2, 3, 4, 5, 6, 7, 8, 9, 11, 12, 13] rfl rfl rfl rfl (by decide) 10 0 rfl rfl rfl hl.1 rfl (Nat.le_of_ble_eq_true rfl) dL_law_2218 (fun r9 u H locs hpo hP hD hS => ?_)
      have hP : va_P D vwCl [((A 0), .inr (9, [.ref (A 1), .ref (A 3), .ref (A 12), .ref (A 21), .int 0, .ref (A 49), .ref (A 51), .ref (A 60), .ref (A 61), .ref (A 62), .ref (A 63), .ref (A 64)])), ((A 51), .inl (cR, 4, .inr (.inr (.inr (.inr (va_up (va_up (va_up (va_up (fun _ => none) 0 (some (A 52))) 1 (some (A 54))) 2 (some (A 56))) 3 (some (A 58)))))))), ((A 52), .inr (3, [.int (-1), .int 0, .ref (A 53)])), ((A 53), .inl (cJ, 60, .inr (.inl (fun _ => 0)))), ((A 54), .inr (3, [.int (-1), .int 0, .ref (A 55)])), ((A 55), .inl (cJ, 60, .inr (.inl (fun _ => 0)))), ((A 56), .inr (3, [.int (-1), .int 0, .ref (A 57)])), ((A 57), .inl (cJ, 60, .inr (.inl (fun _ => 0)))), ((A 58), .inr (3, [.int (-1), .int 0, .ref (A 59)])), ((A 59), .inl (cJ, 60, .inr (.inl (fun _ => 0)))), ((B 1), .inl (cI, 4, .inl (fun _ => (-1)))), ((B 2), .inl (cI, 4, .inl (fun _ => 0))), ((B 3), .inl (cJ, 240, .inr (.inl (fun _ => 0)))), ((B 0), .inr (10, [.int 0, .ref (B 1), .ref (B 2), .ref (B 3), .ref (B 4), .ref (B 5), .int 0, .int 0, .int 0, .int 0, .int 0, .long 0, .int 0, .int 0, .int 0, .int (-1), .ref (B 6), .ref (B 7), .ref (B 8), .ref (B 9), .ref (B 10), .ref (B 11), .ref (B 12), .ref (B 13), .int 0, .int 0, .ref (B 14), .ref (B 15), .int 0, .int 0, .int 0, .ref (B 16), .ref (B 17), .int 0, .int 0, .int 0, .int 0, .int 0, .ref (B 18), .int 0, .int 0, .int 0]))] H := hP
      have hD : va_D (fun q : Nat => s.heap.size ≤ q) [((A 0), .inr (9, [.ref (A 1), .ref (A 3), .ref (A 12), .ref (A 21), .int 0, .ref (A 49), .ref (A 51), .ref (A 60), .ref (A 61), .ref (A 62), .ref (A 63), .ref (A 64)])), ((A 51), .inl (cR, 4, .inr (.inr (.inr (.inr (va_up (va_up (va_up (va_up (fun _ => none) 0 (some (A 52))) 1 (some (A 54))) 2 (some (A 56))) 3 (some (A 58)))))))), ((A 52), .inr (3, [.int (-1), .int 0, .ref (A 53)])), ((A 53), .inl (cJ, 60, .inr (.inl (fun _ => 0)))), ((A 54), .inr (3, [.int (-1), .int 0, .ref (A 55)])), ((A 55), .inl (cJ, 60, .inr (.inl (fun _ => 0)))), ((A 56), .inr (3, [.int (-1), .int 0, .ref (A 57)])), ((A 57), .inl (cJ, 60, .inr (.inl (fun _ => 0)))), ((A 58), .inr (3, [.int (-1), .int 0, .ref (A 59)])), ((A 59), .inl (cJ, 60, .inr (.inl (fun _ => 0)))), ((B 1), .inl (cI, 4, .inl (fun _ => (-1)))), ((B 2), .inl (cI, 4, .inl (fun _ => 0))), ((B 3), .inl (cJ, 240, .inr (.inl (fun _ => 0)))), ((B 0), .inr (10, [.int 0, .ref (B 1), .ref (B 2), .ref (B 3), .ref (B 4), .ref (B 5), .int 0, .int 0, .int 0, .int 0, .int 0, .long 0, .int 0, .int 0, .int 0, .int (-1), .ref (B 6), .ref (B 7), .ref (B 8), .ref (B 9), .ref (B 10), .ref (B 11), .ref (B 12), .ref (B 13), .int 0, .int 0, .ref (B 14), .ref (B 15), .int 0, .int 0, .int 0, .ref (B 16), .ref (B 17), .int 0, .int 0, .int 0, .int 0, .int 0, .ref (B 18), .int 0, .int 0, .int 0]))] := hD
      refine W.cs (cells' := 180) (slots' := 4779) rfl rfl ?_
      have hpo : r9 = (-2) := hpo
      subst hpo
      refine lv_icmp_eq (tgt := 2362) hx hb dL_law_2221 (by decide) (fun _ => ?_) (fun c9 => absurd (by decide) c9)
      exact law_end C0 hS (Nat.le_of_ble_eq_true rfl) (Nat.le_of_ble_eq_true rfl) ls hl
  · refine cvR (n := 3) (As := [.int p1, .int p2, .int p3]) (rest := []) ⟨hx, hb, hml, hown, hts⟩ (fun _ h => uw_in h) (kX9_row_7 l D cB cI cJ cZ cT cR (A 0) (A 1) (A 3) (A 12) (A 21) (A 49) (A 51) (A 60) (A 61) (A 62) (A 63) (A 64) p1 p2 p3 hc1) q_m1158 q_n1159 q_e1160 q_i1 q_c1161 (by decide +kernel) ⟨(Nat.le_of_ble_eq_true rfl), (Nat.le_of_ble_eq_true rfl)⟩ ⟨(Nat.le_of_ble_eq_true rfl), (Nat.le_of_ble_eq_true rfl)⟩ hK (hP.sub (ws' := [((A 0), .inr (9, [.ref (A 1), .ref (A 3), .ref (A 12), .ref (A 21), .int 0, .ref (A 49), .ref (A 51), .ref (A 60), .ref (A 61), .ref (A 62), .ref (A 63), .ref (A 64)]))]) [0] rfl) 9 0 rfl rfl rfl hl.1 rfl (Nat.le_of_ble_eq_true rfl) dL_law_2199 ?_
    refine lv_aload_n hx hb dL_law_2202 rfl (lv_at hl 1 rfl) ?_
    refine lv_aload_n hx hb dL_law_2203 rfl (lv_at hl 3 rfl) ?_
    refine lv_iload_n hx hb dL_law_2204 rfl (lv_at hl 0 rfl) ?_
    refine lv_iconst (v := 1) hx hb dL_law_2205 (by decide) ?_
    refine lv_iadd hx hb dL_law_2206 ?_
    refine pv_i (v := 1) (by decide) ?_
    refine va_sld hx hb hX hbl hbA hS (vp_in_iff.mpr ⟨by decide, by decide⟩) dL_law_2207 ?_
    refine pv_i (v := p1) ep1.symm ?_
    refine lv_aload_n hx hb dL_law_2208 rfl (lv_at hl 3 rfl) ?_
    refine lv_iload_n hx hb dL_law_2209 rfl (lv_at hl 0 rfl) ?_
    refine lv_iconst (v := 2) hx hb dL_law_2210 (by decide) ?_
    refine lv_iadd hx hb dL_law_2211 ?_
    refine pv_i (v := 2) (by decide) ?_
    refine va_sld hx hb hX hbl hbA hS (vp_in_iff.mpr ⟨by decide, by decide⟩) dL_law_2212 ?_
    refine pv_i (v := p2) ep2.symm ?_
    refine lv_aload_n hx hb dL_law_2213 rfl (lv_at hl 3 rfl) ?_
    refine lv_iload_n hx hb dL_law_2214 rfl (lv_at hl 0 rfl) ?_
    refine lv_iconst (v := 3) hx hb dL_law_2215 (by decide) ?_
    refine lv_iadd hx hb dL_law_2216 ?_
    refine pv_i (v := 3) (by decide) ?_
    refine va_sld hx hb hX hbl hbA hS (vp_in_iff.mpr ⟨by decide, by decide⟩) dL_law_2217 ?_
    refine pv_i (v := p3) ep3.symm ?_
    refine cvM (n := 3) (As := [.int p1, .int p2, .int p3]) (rest := [.int (-2)]) (wr := [((A 0), .inr (9, [.ref (A 1), .ref (A 3), .ref (A 12), .ref (A 21), .int 0, .ref (A 49), .ref (A 51), .ref (A 60), .ref (A 61), .ref (A 62), .ref (A 63), .ref (A 64)])), ((A 51), .inl (cR, 4, .inr (.inr (.inr (.inr (va_up (va_up (va_up (va_up (fun _ => none) 0 (some (A 52))) 1 (some (A 54))) 2 (some (A 56))) 3 (some (A 58)))))))), ((A 52), .inr (3, [.int (-1), .int 0, .ref (A 53)])), ((A 53), .inl (cJ, 60, .inr (.inl (fun _ => 0)))), ((A 54), .inr (3, [.int (-1), .int 0, .ref (A 55)])), ((A 55), .inl (cJ, 60, .inr (.inl (fun _ => 0)))), ((A 56), .inr (3, [.int (-1), .int 0, .ref (A 57)])), ((A 57), .inl (cJ, 60, .inr (.inl (fun _ => 0)))), ((A 58), .inr (3, [.int (-1), .int 0, .ref (A 59)])), ((A 59), .inl (cJ, 60, .inr (.inl (fun _ => 0)))), ((B 1), .inl (cI, 4, .inl (fun _ => (-1)))), ((B 2), .inl (cI, 4, .inl (fun _ => 0))), ((B 3), .inl (cJ, 240, .inr (.inl (fun _ => 0))))]) ⟨hx, hb, hml, hown, hts⟩ (fun _ h => uw_in h) (kX10_row_7 l D cB cI cJ cZ cT cR (B 0) (B 1) (B 2) (B 3) (B 4) (B 5) (B 6) (B 7) (B 8) (B 9) (B 10) (B 11) (B 12) (B 13) (B 14) (B 15) (B 16) (B 17) (B 18) p1 p2 p3 hc1 H.size) q_m1316 q_n1317 q_e1318 q_i11 q_c1319 (by decide +kernel) ⟨(Nat.le_of_ble_eq_true rfl), (Nat.le_of_ble_eq_true rfl)⟩ ⟨(Nat.le_of_ble_eq_true rfl), (Nat.le_of_ble_eq_true rfl)⟩ hE hK hP hD hS hA [10] [0, 1, 2, 3, 4, 5, 6, 7, 8, 9, 11, 12, 13] rfl rfl rfl rfl (by decide) 10 0 rfl rfl rfl hl.1 rfl (Nat.le_of_ble_eq_true rfl) dL_law_2218 (fun r9 u H locs hpo hP hD hS => ?_)
    have hP : va_P D vwCl [((A 0), .inr (9, [.ref (A 1), .ref (A 3), .ref (A 12), .ref (A 21), .int 0, .ref (A 49), .ref (A 51), .ref (A 60), .ref (A 61), .ref (A 62), .ref (A 63), .ref (A 64)])), ((A 51), .inl (cR, 4, .inr (.inr (.inr (.inr (va_up (va_up (va_up (va_up (fun _ => none) 0 (some (A 52))) 1 (some (A 54))) 2 (some (A 56))) 3 (some (A 58)))))))), ((A 52), .inr (3, [.int (-1), .int 0, .ref (A 53)])), ((A 53), .inl (cJ, 60, .inr (.inl (fun _ => 0)))), ((A 54), .inr (3, [.int (-1), .int 0, .ref (A 55)])), ((A 55), .inl (cJ, 60, .inr (.inl (fun _ => 0)))), ((A 56), .inr (3, [.int (-1), .int 0, .ref (A 57)])), ((A 57), .inl (cJ, 60, .inr (.inl (fun _ => 0)))), ((A 58), .inr (3, [.int (-1), .int 0, .ref (A 59)])), ((A 59), .inl (cJ, 60, .inr (.inl (fun _ => 0)))), ((B 1), .inl (cI, 4, .inl (fun _ => (-1)))), ((B 2), .inl (cI, 4, .inl (fun _ => 0))), ((B 3), .inl (cJ, 240, .inr (.inl (fun _ => 0)))), ((B 0), .inr (10, [.int 0, .ref (B 1), .ref (B 2), .ref (B 3), .ref (B 4), .ref (B 5), .int 0, .int 0, .int 0, .int 0, .int 0, .long 0, .int 0, .int 0, .int 0, .int (-1), .ref (B 6), .ref (B 7), .ref (B 8), .ref (B 9), .ref (B 10), .ref (B 11), .ref (B 12), .ref (B 13), .int 0, .int 0, .ref (B 14), .ref (B 15), .int 0, .int 0, .int 0, .ref (B 16), .ref (B 17), .int 0, .int 0, .int 0, .int 0, .int 0, .ref (B 18), .int 0, .int 0, .int 0]))] H := hP
    have hD : va_D (fun q : Nat => s.heap.size ≤ q) [((A 0), .inr (9, [.ref (A 1), .ref (A 3), .ref (A 12), .ref (A 21), .int 0, .ref (A 49), .ref (A 51), .ref (A 60), .ref (A 61), .ref (A 62), .ref (A 63), .ref (A 64)])), ((A 51), .inl (cR, 4, .inr (.inr (.inr (.inr (va_up (va_up (va_up (va_up (fun _ => none) 0 (some (A 52))) 1 (some (A 54))) 2 (some (A 56))) 3 (some (A 58)))))))), ((A 52), .inr (3, [.int (-1), .int 0, .ref (A 53)])), ((A 53), .inl (cJ, 60, .inr (.inl (fun _ => 0)))), ((A 54), .inr (3, [.int (-1), .int 0, .ref (A 55)])), ((A 55), .inl (cJ, 60, .inr (.inl (fun _ => 0)))), ((A 56), .inr (3, [.int (-1), .int 0, .ref (A 57)])), ((A 57), .inl (cJ, 60, .inr (.inl (fun _ => 0)))), ((A 58), .inr (3, [.int (-1), .int 0, .ref (A 59)])), ((A 59), .inl (cJ, 60, .inr (.inl (fun _ => 0)))), ((B 1), .inl (cI, 4, .inl (fun _ => (-1)))), ((B 2), .inl (cI, 4, .inl (fun _ => 0))), ((B 3), .inl (cJ, 240, .inr (.inl (fun _ => 0)))), ((B 0), .inr (10, [.int 0, .ref (B 1), .ref (B 2), .ref (B 3), .ref (B 4), .ref (B 5), .int 0, .int 0, .int 0, .int 0, .int 0, .long 0, .int 0, .int 0, .int 0, .int (-1), .ref (B 6), .ref (B 7), .ref (B 8), .ref (B 9), .ref (B 10), .ref (B 11), .ref (B 12), .ref (B 13), .int 0, .int 0, .ref (B 14), .ref (B 15), .int 0, .int 0, .int 0, .ref (B 16), .ref (B 17), .int 0, .int 0, .int 0, .int 0, .int 0, .ref (B 18), .int 0, .int 0, .int 0]))] := hD
    refine W.cs (cells' := 180) (slots' := 4779) rfl rfl ?_
    have hpo : r9 = (-2) := hpo
    subst hpo
    refine lv_icmp_eq (tgt := 2362) hx hb dL_law_2221 (by decide) (fun _ => ?_) (fun c9 => absurd (by decide) c9)
    exact law_end C0 hS (Nat.le_of_ble_eq_true rfl) (Nat.le_of_ble_eq_true rfl) ls hl
