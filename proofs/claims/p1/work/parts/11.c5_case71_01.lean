set_option maxHeartbeats 4000000 in
set_option maxRecDepth 100000 in
theorem kX9_paste_16 (l : Launch) (D : va_G) (cB cI cJ cZ cT cR : ClassId) (a0 a1 a2 a3 a4 a5 a6 a7 a8 a9 a10 a11 : Nat) (x0 : Int32) (x1 : Int32) (x2 : Int32) (x3 : Int32) (x4 : Int32) (hy0 : 0 ≤ x0 ∧ x0 ≤ 3) (hy1 : ¬ (0 ≤ x2 ∧ x2 ≤ 3)) : Met l yX9_paste (uc yX9_paste cX9_paste 8 (some .int)) (rmL 3 0 0) (va_Pc [.ref a0, .int x0, .int x1, .int x2, .int x3, .int x4] (RPre D [(cB, .byte), (cI, .int), (cJ, .long), (cZ, .boolean), (cT, .object RX7), (cR, .object RX3)] [(a0, .inr (9, [.ref a1, .ref a2, .ref a3, .ref a4, .int 0, .ref a5, .ref a6, .ref a7, .ref a8, .ref a9, .ref a10, .ref a11]))])) (QcRead (-2)) 0 0 (fun _ => False) := by
  refine pm (by decide) (Nat.le_of_ble_eq_true rfl) ?_
  intro p e s m below meth c ls hx hb hr hml hown hlk hnm hts hv hl
  have hown : s.vm.findClass RX9 = some m.cls := hown
  have hl : lv_has ls 8 [(0, .ref a0), (1, .int x0), (2, .int x1), (3, .int x2), (4, .int x3), (5, .int x4)] := hl
  obtain ⟨hP, hK⟩ := hv
  refine lv_iload_n hx hb dX9_paste_0 rfl (lv_at hl 1 rfl) ?_
  refine csR (n := 1) (As := [.int x0]) (rest := []) ⟨hx, hb, hml, hown, hts⟩ uc_in (kX9_isSlot_0 l D cB cI cJ cZ cT cR x0 hy0) q_m911 q_s912 q_i1 q_c913 (by decide +kernel) ⟨(Nat.le_of_ble_eq_true rfl), (Nat.le_of_ble_eq_true rfl)⟩ ⟨(Nat.le_of_ble_eq_true rfl), (Nat.le_of_ble_eq_true rfl)⟩ hK (hP.sub (ws' := []) [] rfl) rfl hl.1 rfl (Nat.le_of_ble_eq_true rfl) dX9_paste_1 ?_
  refine lv_if_eq (tgt := 14) hx hb dX9_paste_4 (by decide) (fun c9 => absurd c9 (by decide)) (fun _ => ?_)
  refine lv_iload_n hx hb dX9_paste_7 rfl (lv_at hl 3 rfl) ?_
  refine csR (n := 1) (As := [.int x2]) (rest := []) ⟨hx, hb, hml, hown, hts⟩ uc_in (kX9_isSlot_1 l D cB cI cJ cZ cT cR x2 hy1) q_m911 q_s912 q_i1 q_c913 (by decide +kernel) ⟨(Nat.le_of_ble_eq_true rfl), (Nat.le_of_ble_eq_true rfl)⟩ ⟨(Nat.le_of_ble_eq_true rfl), (Nat.le_of_ble_eq_true rfl)⟩ hK (hP.sub (ws' := []) [] rfl) rfl hl.1 rfl (Nat.le_of_ble_eq_true rfl) dX9_paste_8 ?_
  refine lv_if_ne (tgt := 17) hx hb dX9_paste_11 (by decide) (fun c9 => absurd (by decide) c9) (fun _ => ?_)
  refine lv_bipush (v := (-2)) hx hb dX9_paste_14 (by decide) ?_
  exact W.iret hx hb hr (fun t ht _ => ⟨rfl, ht⟩) (fun _ h => by cases h) dX9_paste_16
set_option maxHeartbeats 4000000 in
set_option maxRecDepth 100000 in
theorem kX10_paste_16 (l : Launch) (D : va_G) (cB cI cJ cZ cT cR : ClassId) (a0 a1 a2 a3 a4 a5 a6 a7 a8 a9 a10 a11 a12 a13 a14 a15 a16 a17 a18 : Nat) (x0 : Int32) (x1 : Int32) (x2 : Int32) (x3 : Int32) (x4 : Int32) (hy0 : 0 ≤ x0 ∧ x0 ≤ 3) (hy1 : ¬ (0 ≤ x2 ∧ x2 ≤ 3)) (sz : Nat) : Met l yX10_paste (uc yX10_paste cX10_paste 7 (some .int)) (rmL 3 0 0) (va_Pc [.ref a0, .int x0, .int x1, .int x2, .int x3, .int x4] (MPre D [(cB, .byte), (cI, .int), (cJ, .long), (cZ, .boolean), (cT, .object RX7), (cR, .object RX3)] [(a0, .inr (10, [.int 0, .ref a1, .ref a2, .ref a3, .ref a4, .ref a5, .int 0, .int 0, .int 0, .int 0, .int 0, .long 0, .int 0, .int 0, .int 0, .int (-1), .ref a6, .ref a7, .ref a8, .ref a9, .ref a10, .ref a11, .ref a12, .ref a13, .int 0, .int 0, .ref a14, .ref a15, .int 0, .int 0, .int 0, .ref a16, .ref a17, .int 0, .int 0, .int 0, .int 0, .int 0, .ref a18, .int 0, .int 0, .int 0]))] sz)) (va_Qi (fun (r : Int32) (_ : Unit) => r = (-2)) (MB D [(cB, .byte), (cI, .int), (cJ, .long), (cZ, .boolean), (cT, .object RX7), (cR, .object RX3)] [(a0, .inr (10, [.int 0, .ref a1, .ref a2, .ref a3, .ref a4, .ref a5, .int 0, .int 0, .int 0, .int 0, .int 0, .long 0, .int 0, .int 0, .int 0, .int (-1), .ref a6, .ref a7, .ref a8, .ref a9, .ref a10, .ref a11, .ref a12, .ref a13, .int 0, .int 0, .ref a14, .ref a15, .int 0, .int 0, .int 0, .ref a16, .ref a17, .int 0, .int 0, .int 0, .int 0, .int 0, .ref a18, .int 0, .int 0, .int 0]))] sz (fun (u : Unit) => [(a0, .inr (10, [.int 0, .ref a1, .ref a2, .ref a3, .ref a4, .ref a5, .int 0, .int 0, .int 0, .int 0, .int 0, .long 0, .int 0, .int 0, .int 0, .int (-1), .ref a6, .ref a7, .ref a8, .ref a9, .ref a10, .ref a11, .ref a12, .ref a13, .int 0, .int 0, .ref a14, .ref a15, .int 0, .int 0, .int 0, .ref a16, .ref a17, .int 0, .int 0, .int 0, .int 0, .int 0, .ref a18, .int 0, .int 0, .int 0]))])) (va_A [(a0, .inr (10, [.int 0, .ref a1, .ref a2, .ref a3, .ref a4, .ref a5, .int 0, .int 0, .int 0, .int 0, .int 0, .long 0, .int 0, .int 0, .int 0, .int (-1), .ref a6, .ref a7, .ref a8, .ref a9, .ref a10, .ref a11, .ref a12, .ref a13, .int 0, .int 0, .ref a14, .ref a15, .int 0, .int 0, .int 0, .ref a16, .ref a17, .int 0, .int 0, .int 0, .int 0, .int 0, .ref a18, .int 0, .int 0, .int 0]))] sz)) 0 0 (va_A [(a0, .inr (10, [.int 0, .ref a1, .ref a2, .ref a3, .ref a4, .ref a5, .int 0, .int 0, .int 0, .int 0, .int 0, .long 0, .int 0, .int 0, .int 0, .int (-1), .ref a6, .ref a7, .ref a8, .ref a9, .ref a10, .ref a11, .ref a12, .ref a13, .int 0, .int 0, .ref a14, .ref a15, .int 0, .int 0, .int 0, .ref a16, .ref a17, .int 0, .int 0, .int 0, .int 0, .int 0, .ref a18, .int 0, .int 0, .int 0]))] sz) := by
  refine pm (by decide) (Nat.le_of_ble_eq_true rfl) ?_
  intro p e s m below meth c ls hx hb hr hml hown hlk hnm hts hv hl
  have hown : s.vm.findClass RX10 = some m.cls := hown
  have hl : lv_has ls 7 [(0, .ref a0), (1, .int x0), (2, .int x1), (3, .int x2), (4, .int x3), (5, .int x4)] := hl
  obtain ⟨hsz, hP, hK, hD0, hE⟩ := hv
  subst hsz
  have hD := hD0.self (sz := s.heap.size)
  obtain ⟨AA, hAe⟩ : ∃ AA, AA = va_A [(a0, .inr (10, [.int 0, .ref a1, .ref a2, .ref a3, .ref a4, .ref a5, .int 0, .int 0, .int 0, .int 0, .int 0, .long 0, .int 0, .int 0, .int 0, .int (-1), .ref a6, .ref a7, .ref a8, .ref a9, .ref a10, .ref a11, .ref a12, .ref a13, .int 0, .int 0, .ref a14, .ref a15, .int 0, .int 0, .int 0, .ref a16, .ref a17, .int 0, .int 0, .int 0, .int 0, .int 0, .ref a18, .int 0, .int 0, .int 0]))] s.heap.size := ⟨_, rfl⟩
  rw [← hAe] at hD
  have hA : ∀ q : Nat, s.heap.size ≤ q → AA q := fun q h => by rw [hAe]; exact Or.inr h
  have hS : va_S AA s.heap s.heap [] := va_S.rf
  obtain ⟨-, hAOT, hAOR, hAOI⟩ := id hE
  refine lv_aload_n hx hb dX10_paste_0 rfl (lv_at hl 0 rfl) ?_
  refine lv_iconst (v := 0) hx hb dX10_paste_1 (by decide) ?_
  refine va_put (D := D) (ci := 10) (v := .int 0) (ty := .int) (C := RX10) (T := TX10) (N := 42) hx hb hts (fun w h => uc_in w (inX10 w h)) tyX10 tyX10_ok nmX10 hown hK hP hD hS 0 rfl rfl 0 (by decide) (hts _ (uc_in _ q_f1188)) (fun _ h9 => h9) rfl (by decide +kernel) rfl rfl (Nat.le_of_ble_eq_true rfl) dX10_paste_2 (fun H locs hP hD hS => ?_)
  have hP : va_P D vwCl [(a0, .inr (10, [.int 0, .ref a1, .ref a2, .ref a3, .ref a4, .ref a5, .int 0, .int 0, .int 0, .int 0, .int 0, .long 0, .int 0, .int 0, .int 0, .int (-1), .ref a6, .ref a7, .ref a8, .ref a9, .ref a10, .ref a11, .ref a12, .ref a13, .int 0, .int 0, .ref a14, .ref a15, .int 0, .int 0, .int 0, .ref a16, .ref a17, .int 0, .int 0, .int 0, .int 0, .int 0, .ref a18, .int 0, .int 0, .int 0]))] H := hP
  have hD : va_D AA [(a0, .inr (10, [.int 0, .ref a1, .ref a2, .ref a3, .ref a4, .ref a5, .int 0, .int 0, .int 0, .int 0, .int 0, .long 0, .int 0, .int 0, .int 0, .int (-1), .ref a6, .ref a7, .ref a8, .ref a9, .ref a10, .ref a11, .ref a12, .ref a13, .int 0, .int 0, .ref a14, .ref a15, .int 0, .int 0, .int 0, .ref a16, .ref a17, .int 0, .int 0, .int 0, .int 0, .int 0, .ref a18, .int 0, .int 0, .int 0]))] := hD
  refine lv_iload_n hx hb dX10_paste_5 rfl (lv_at hl 1 rfl) ?_
  refine csR (n := 1) (As := [.int x0]) (rest := []) ⟨hx, hb, hml, hown, hts⟩ uc_in (kX10_isSlot_0 l D cB cI cJ cZ cT cR x0 hy0) q_m1320 q_s1321 q_i11 q_c1322 (by decide +kernel) ⟨(Nat.le_of_ble_eq_true rfl), (Nat.le_of_ble_eq_true rfl)⟩ ⟨(Nat.le_of_ble_eq_true rfl), (Nat.le_of_ble_eq_true rfl)⟩ hK (hP.sub (ws' := []) [] rfl) rfl hl.1 rfl (Nat.le_of_ble_eq_true rfl) dX10_paste_6 ?_
  refine lv_if_eq (tgt := 19) hx hb dX10_paste_9 (by decide) (fun c9 => absurd c9 (by decide)) (fun _ => ?_)
  refine lv_iload_n hx hb dX10_paste_12 rfl (lv_at hl 3 rfl) ?_
  refine csR (n := 1) (As := [.int x2]) (rest := []) ⟨hx, hb, hml, hown, hts⟩ uc_in (kX10_isSlot_1 l D cB cI cJ cZ cT cR x2 hy1) q_m1320 q_s1321 q_i11 q_c1322 (by decide +kernel) ⟨(Nat.le_of_ble_eq_true rfl), (Nat.le_of_ble_eq_true rfl)⟩ ⟨(Nat.le_of_ble_eq_true rfl), (Nat.le_of_ble_eq_true rfl)⟩ hK (hP.sub (ws' := []) [] rfl) rfl hl.1 rfl (Nat.le_of_ble_eq_true rfl) dX10_paste_13 ?_
  refine lv_if_ne (tgt := 22) hx hb dX10_paste_16 (by decide) (fun c9 => absurd (by decide) c9) (fun _ => ?_)
  refine lv_bipush (v := (-2)) hx hb dX10_paste_19 (by decide) ?_
  subst hAe
  have hP9 := hP.sub (ws' := [(a0, .inr (10, [.int 0, .ref a1, .ref a2, .ref a3, .ref a4, .ref a5, .int 0, .int 0, .int 0, .int 0, .int 0, .long 0, .int 0, .int 0, .int 0, .int (-1), .ref a6, .ref a7, .ref a8, .ref a9, .ref a10, .ref a11, .ref a12, .ref a13, .int 0, .int 0, .ref a14, .ref a15, .int 0, .int 0, .int 0, .ref a16, .ref a17, .int 0, .int 0, .int 0, .int 0, .int 0, .ref a18, .int 0, .int 0, .int 0]))]) [0] rfl
  have hD9 := hD.sub (ws' := [(a0, .inr (10, [.int 0, .ref a1, .ref a2, .ref a3, .ref a4, .ref a5, .int 0, .int 0, .int 0, .int 0, .int 0, .long 0, .int 0, .int 0, .int 0, .int (-1), .ref a6, .ref a7, .ref a8, .ref a9, .ref a10, .ref a11, .ref a12, .ref a13, .int 0, .int 0, .ref a14, .ref a15, .int 0, .int 0, .int 0, .ref a16, .ref a17, .int 0, .int 0, .int 0, .int 0, .int 0, .ref a18, .int 0, .int 0, .int 0]))]) [0] rfl rfl
  exact W.iret hx hb hr (fun t ht hW => ⟨⟨(-2), (), rfl, rfl, by rw [ht]; exact hP9, va_K.moved hW.alike hK, hD9⟩, hS.F ht⟩) hS.2.2 dX10_paste_21
set_option maxHeartbeats 4000000 in
set_option maxRecDepth 100000 in
theorem kX9_paste_17 (l : Launch) (D : va_G) (cB cI cJ cZ cT cR : ClassId) (a0 a1 a2 a3 a4 a5 a6 a7 a8 a9 a10 a11 : Nat) (x0 : Int32) (x1 : Int32) (x2 : Int32) (x3 : Int32) (x4 : Int32) (hy0 : ¬ (0 ≤ x0 ∧ x0 ≤ 3)) : Met l yX9_paste (uc yX9_paste cX9_paste 8 (some .int)) (rmL 3 0 0) (va_Pc [.ref a0, .int x0, .int x1, .int x2, .int x3, .int x4] (RPre D [(cB, .byte), (cI, .int), (cJ, .long), (cZ, .boolean), (cT, .object RX7), (cR, .object RX3)] [(a0, .inr (9, [.ref a1, .ref a2, .ref a3, .ref a4, .int 0, .ref a5, .ref a6, .ref a7, .ref a8, .ref a9, .ref a10, .ref a11]))])) (QcRead (-2)) 0 0 (fun _ => False) := by
  refine pm (by decide) (Nat.le_of_ble_eq_true rfl) ?_
  intro p e s m below meth c ls hx hb hr hml hown hlk hnm hts hv hl
  have hown : s.vm.findClass RX9 = some m.cls := hown
  have hl : lv_has ls 8 [(0, .ref a0), (1, .int x0), (2, .int x1), (3, .int x2), (4, .int x3), (5, .int x4)] := hl
  obtain ⟨hP, hK⟩ := hv
  refine lv_iload_n hx hb dX9_paste_0 rfl (lv_at hl 1 rfl) ?_
  refine csR (n := 1) (As := [.int x0]) (rest := []) ⟨hx, hb, hml, hown, hts⟩ uc_in (kX9_isSlot_1 l D cB cI cJ cZ cT cR x0 hy0) q_m911 q_s912 q_i1 q_c913 (by decide +kernel) ⟨(Nat.le_of_ble_eq_true rfl), (Nat.le_of_ble_eq_true rfl)⟩ ⟨(Nat.le_of_ble_eq_true rfl), (Nat.le_of_ble_eq_true rfl)⟩ hK (hP.sub (ws' := []) [] rfl) rfl hl.1 rfl (Nat.le_of_ble_eq_true rfl) dX9_paste_1 ?_
  refine lv_if_eq (tgt := 14) hx hb dX9_paste_4 (by decide) (fun _ => ?_) (fun c9 => absurd (by decide) c9)
  refine lv_bipush (v := (-2)) hx hb dX9_paste_14 (by decide) ?_
  exact W.iret hx hb hr (fun t ht _ => ⟨rfl, ht⟩) (fun _ h => by cases h) dX9_paste_16
set_option maxHeartbeats 4000000 in
set_option maxRecDepth 100000 in
theorem kX10_paste_17 (l : Launch) (D : va_G) (cB cI cJ cZ cT cR : ClassId) (a0 a1 a2 a3 a4 a5 a6 a7 a8 a9 a10 a11 a12 a13 a14 a15 a16 a17 a18 : Nat) (x0 : Int32) (x1 : Int32) (x2 : Int32) (x3 : Int32) (x4 : Int32) (hy0 : ¬ (0 ≤ x0 ∧ x0 ≤ 3)) (sz : Nat) : Met l yX10_paste (uc yX10_paste cX10_paste 7 (some .int)) (rmL 3 0 0) (va_Pc [.ref a0, .int x0, .int x1, .int x2, .int x3, .int x4] (MPre D [(cB, .byte), (cI, .int), (cJ, .long), (cZ, .boolean), (cT, .object RX7), (cR, .object RX3)] [(a0, .inr (10, [.int 0, .ref a1, .ref a2, .ref a3, .ref a4, .ref a5, .int 0, .int 0, .int 0, .int 0, .int 0, .long 0, .int 0, .int 0, .int 0, .int (-1), .ref a6, .ref a7, .ref a8, .ref a9, .ref a10, .ref a11, .ref a12, .ref a13, .int 0, .int 0, .ref a14, .ref a15, .int 0, .int 0, .int 0, .ref a16, .ref a17, .int 0, .int 0, .int 0, .int 0, .int 0, .ref a18, .int 0, .int 0, .int 0]))] sz)) (va_Qi (fun (r : Int32) (_ : Unit) => r = (-2)) (MB D [(cB, .byte), (cI, .int), (cJ, .long), (cZ, .boolean), (cT, .object RX7), (cR, .object RX3)] [(a0, .inr (10, [.int 0, .ref a1, .ref a2, .ref a3, .ref a4, .ref a5, .int 0, .int 0, .int 0, .int 0, .int 0, .long 0, .int 0, .int 0, .int 0, .int (-1), .ref a6, .ref a7, .ref a8, .ref a9, .ref a10, .ref a11, .ref a12, .ref a13, .int 0, .int 0, .ref a14, .ref a15, .int 0, .int 0, .int 0, .ref a16, .ref a17, .int 0, .int 0, .int 0, .int 0, .int 0, .ref a18, .int 0, .int 0, .int 0]))] sz (fun (u : Unit) => [(a0, .inr (10, [.int 0, .ref a1, .ref a2, .ref a3, .ref a4, .ref a5, .int 0, .int 0, .int 0, .int 0, .int 0, .long 0, .int 0, .int 0, .int 0, .int (-1), .ref a6, .ref a7, .ref a8, .ref a9, .ref a10, .ref a11, .ref a12, .ref a13, .int 0, .int 0, .ref a14, .ref a15, .int 0, .int 0, .int 0, .ref a16, .ref a17, .int 0, .int 0, .int 0, .int 0, .int 0, .ref a18, .int 0, .int 0, .int 0]))])) (va_A [(a0, .inr (10, [.int 0, .ref a1, .ref a2, .ref a3, .ref a4, .ref a5, .int 0, .int 0, .int 0, .int 0, .int 0, .long 0, .int 0, .int 0, .int 0, .int (-1), .ref a6, .ref a7, .ref a8, .ref a9, .ref a10, .ref a11, .ref a12, .ref a13, .int 0, .int 0, .ref a14, .ref a15, .int 0, .int 0, .int 0, .ref a16, .ref a17, .int 0, .int 0, .int 0, .int 0, .int 0, .ref a18, .int 0, .int 0, .int 0]))] sz)) 0 0 (va_A [(a0, .inr (10, [.int 0, .ref a1, .ref a2, .ref a3, .ref a4, .ref a5, .int 0, .int 0, .int 0, .int 0, .int 0, .long 0, .int 0, .int 0, .int 0, .int (-1), .ref a6, .ref a7, .ref a8, .ref a9, .ref a10, .ref a11, .ref a12, .ref a13, .int 0, .int 0, .ref a14, .ref a15, .int 0, .int 0, .int 0, .ref a16, .ref a17, .int 0, .int 0, .int 0, .int 0, .int 0, .ref a18, .int 0, .int 0, .int 0]))] sz) := by
  refine pm (by decide) (Nat.le_of_ble_eq_true rfl) ?_
  intro p e s m below meth c ls hx hb hr hml hown hlk hnm hts hv hl
  have hown : s.vm.findClass RX10 = some m.cls := hown
  have hl : lv_has ls 7 [(0, .ref a0), (1, .int x0), (2, .int x1), (3, .int x2), (4, .int x3), (5, .int x4)] := hl
  obtain ⟨hsz, hP, hK, hD0, hE⟩ := hv
  subst hsz
  have hD := hD0.self (sz := s.heap.size)
  obtain ⟨AA, hAe⟩ : ∃ AA, AA = va_A [(a0, .inr (10, [.int 0, .ref a1, .ref a2, .ref a3, .ref a4, .ref a5, .int 0, .int 0, .int 0, .int 0, .int 0, .long 0, .int 0, .int 0, .int 0, .int (-1), .ref a6, .ref a7, .ref a8, .ref a9, .ref a10, .ref a11, .ref a12, .ref a13, .int 0, .int 0, .ref a14, .ref a15, .int 0, .int 0, .int 0, .ref a16, .ref a17, .int 0, .int 0, .int 0, .int 0, .int 0, .ref a18, .int 0, .int 0, .int 0]))] s.heap.size := ⟨_, rfl⟩
  rw [← hAe] at hD
  have hA : ∀ q : Nat, s.heap.size ≤ q → AA q := fun q h => by rw [hAe]; exact Or.inr h
  have hS : va_S AA s.heap s.heap [] := va_S.rf
  obtain ⟨-, hAOT, hAOR, hAOI⟩ := id hE
  refine lv_aload_n hx hb dX10_paste_0 rfl (lv_at hl 0 rfl) ?_
  refine lv_iconst (v := 0) hx hb dX10_paste_1 (by decide) ?_
  refine va_put (D := D) (ci := 10) (v := .int 0) (ty := .int) (C := RX10) (T := TX10) (N := 42) hx hb hts (fun w h => uc_in w (inX10 w h)) tyX10 tyX10_ok nmX10 hown hK hP hD hS 0 rfl rfl 0 (by decide) (hts _ (uc_in _ q_f1188)) (fun _ h9 => h9) rfl (by decide +kernel) rfl rfl (Nat.le_of_ble_eq_true rfl) dX10_paste_2 (fun H locs hP hD hS => ?_)
  have hP : va_P D vwCl [(a0, .inr (10, [.int 0, .ref a1, .ref a2, .ref a3, .ref a4, .ref a5, .int 0, .int 0, .int 0, .int 0, .int 0, .long 0, .int 0, .int 0, .int 0, .int (-1), .ref a6, .ref a7, .ref a8, .ref a9, .ref a10, .ref a11, .ref a12, .ref a13, .int 0, .int 0, .ref a14, .ref a15, .int 0, .int 0, .int 0, .ref a16, .ref a17, .int 0, .int 0, .int 0, .int 0, .int 0, .ref a18, .int 0, .int 0, .int 0]))] H := hP
  have hD : va_D AA [(a0, .inr (10, [.int 0, .ref a1, .ref a2, .ref a3, .ref a4, .ref a5, .int 0, .int 0, .int 0, .int 0, .int 0, .long 0, .int 0, .int 0, .int 0, .int (-1), .ref a6, .ref a7, .ref a8, .ref a9, .ref a10, .ref a11, .ref a12, .ref a13, .int 0, .int 0, .ref a14, .ref a15, .int 0, .int 0, .int 0, .ref a16, .ref a17, .int 0, .int 0, .int 0, .int 0, .int 0, .ref a18, .int 0, .int 0, .int 0]))] := hD
  refine lv_iload_n hx hb dX10_paste_5 rfl (lv_at hl 1 rfl) ?_
  refine csR (n := 1) (As := [.int x0]) (rest := []) ⟨hx, hb, hml, hown, hts⟩ uc_in (kX10_isSlot_1 l D cB cI cJ cZ cT cR x0 hy0) q_m1320 q_s1321 q_i11 q_c1322 (by decide +kernel) ⟨(Nat.le_of_ble_eq_true rfl), (Nat.le_of_ble_eq_true rfl)⟩ ⟨(Nat.le_of_ble_eq_true rfl), (Nat.le_of_ble_eq_true rfl)⟩ hK (hP.sub (ws' := []) [] rfl) rfl hl.1 rfl (Nat.le_of_ble_eq_true rfl) dX10_paste_6 ?_
  refine lv_if_eq (tgt := 19) hx hb dX10_paste_9 (by decide) (fun _ => ?_) (fun c9 => absurd (by decide) c9)
  refine lv_bipush (v := (-2)) hx hb dX10_paste_19 (by decide) ?_
  subst hAe
  have hP9 := hP.sub (ws' := [(a0, .inr (10, [.int 0, .ref a1, .ref a2, .ref a3, .ref a4, .ref a5, .int 0, .int 0, .int 0, .int 0, .int 0, .long 0, .int 0, .int 0, .int 0, .int (-1), .ref a6, .ref a7, .ref a8, .ref a9, .ref a10, .ref a11, .ref a12, .ref a13, .int 0, .int 0, .ref a14, .ref a15, .int 0, .int 0, .int 0, .ref a16, .ref a17, .int 0, .int 0, .int 0, .int 0, .int 0, .ref a18, .int 0, .int 0, .int 0]))]) [0] rfl
  have hD9 := hD.sub (ws' := [(a0, .inr (10, [.int 0, .ref a1, .ref a2, .ref a3, .ref a4, .ref a5, .int 0, .int 0, .int 0, .int 0, .int 0, .long 0, .int 0, .int 0, .int 0, .int (-1), .ref a6, .ref a7, .ref a8, .ref a9, .ref a10, .ref a11, .ref a12, .ref a13, .int 0, .int 0, .ref a14, .ref a15, .int 0, .int 0, .int 0, .ref a16, .ref a17, .int 0, .int 0, .int 0, .int 0, .int 0, .ref a18, .int 0, .int 0, .int 0]))]) [0] rfl rfl
  exact W.iret hx hb hr (fun t ht hW => ⟨⟨(-2), (), rfl, rfl, by rw [ht]; exact hP9, va_K.moved hW.alike hK, hD9⟩, hS.F ht⟩) hS.2.2 dX10_paste_21
set_option maxHeartbeats 4000000 in
set_option maxRecDepth 100000 in
theorem law_case_71 {p : Program} {l : Launch} {e : Env} {s : State} {m : MethodId} {below : List Frame} {meth : Method} {c : Code} {D : va_G} {cB cI cJ cZ cT cR : ClassId} {b : Nat} {xs : Nat → Int32} {A B : Nat → Nat} {H : Heap} {locs : List Loc} {ls : Array Slot} (C0 : lw_At p s m meth c b 6 xs) (hE : EX s) (hK : va_K D vwCl [(cB, .byte), (cI, .int), (cJ, .long), (cZ, .boolean), (cT, .object RX7), (cR, .object RX3)] s) (hP : va_P D vwCl (fwAll cB cI cJ cZ cT cR A B) H) (hD : va_D (fun q : Nat => s.heap.size ≤ q) (fwAll cB cI cJ cZ cT cR A B)) (hS : va_S (fun q : Nat => s.heap.size ≤ q) s.heap H locs) (hl : lv_has ls 4 [(3, .int 0), (2, .ref (B 0)), (1, .ref (A 0)), (0, .ref b)]) : W p l e room_1 s m #[Value.ref b] below meth c H locs 180 4779 (lw_Z below #[Value.ref b] s) (F0 m 2299 ls []) := by
  obtain ⟨hx, hb, hr, hml, hown, hts, hX, hbl, hlocks, hgv⟩ := id C0
  have hown : s.vm.findClass RL = some m.cls := hown
  have hb : c.code = cL_law := hb
  have hA : ∀ q : Nat, s.heap.size ≤ q → (fun q : Nat => s.heap.size ≤ q) q := fun _ h => h
  have hbA : ¬ (fun q : Nat => s.heap.size ≤ q) b := Nat.not_le.mpr hbl
  have hP := hP.sub (ws' := [((A 0), .inr (9, [.ref (A 1), .ref (A 3), .ref (A 12), .ref (A 21), .int 0, .ref (A 49), .ref (A 51), .ref (A 60), .ref (A 61), .ref (A 62), .ref (A 63), .ref (A 64)])), ((A 51), .inl (cR, 4, .inr (.inr (.inr (.inr (va_up (va_up (va_up (va_up (fun _ => none) 0 (some (A 52))) 1 (some (A 54))) 2 (some (A 56))) 3 (some (A 58)))))))), ((A 52), .inr (3, [.int (-1), .int 0, .ref (A 53)])), ((A 54), .inr (3, [.int (-1), .int 0, .ref (A 55)])), ((A 56), .inr (3, [.int (-1), .int 0, .ref (A 57)])), ((A 58), .inr (3, [.int (-1), .int 0, .ref (A 59)])), ((B 0), .inr (10, [.int 0, .ref (B 1), .ref (B 2), .ref (B 3), .ref (B 4), .ref (B 5), .int 0, .int 0, .int 0, .int 0, .int 0, .long 0, .int 0, .int 0, .int 0, .int (-1), .ref (B 6), .ref (B 7), .ref (B 8), .ref (B 9), .ref (B 10), .ref (B 11), .ref (B 12), .ref (B 13), .int 0, .int 0, .ref (B 14), .ref (B 15), .int 0, .int 0, .int 0, .ref (B 16), .ref (B 17), .int 0, .int 0, .int 0, .int 0, .int 0, .ref (B 18), .int 0, .int 0, .int 0])), ((B 1), .inl (cI, 4, .inl (fun _ => (-1))))]) [0, 51, 52, 54, 56, 58, 60, 61] rfl
  have hD := hD.sub (ws' := [((A 0), .inr (9, [.ref (A 1), .ref (A 3), .ref (A 12), .ref (A 21), .int 0, .ref (A 49), .ref (A 51), .ref (A 60), .ref (A 61), .ref (A 62), .ref (A 63), .ref (A 64)])), ((A 51), .inl (cR, 4, .inr (.inr (.inr (.inr (va_up (va_up (va_up (va_up (fun _ => none) 0 (some (A 52))) 1 (some (A 54))) 2 (some (A 56))) 3 (some (A 58)))))))), ((A 52), .inr (3, [.int (-1), .int 0, .ref (A 53)])), ((A 54), .inr (3, [.int (-1), .int 0, .ref (A 55)])), ((A 56), .inr (3, [.int (-1), .int 0, .ref (A 57)])), ((A 58), .inr (3, [.int (-1), .int 0, .ref (A 59)])), ((B 0), .inr (10, [.int 0, .ref (B 1), .ref (B 2), .ref (B 3), .ref (B 4), .ref (B 5), .int 0, .int 0, .int 0, .int 0, .int 0, .long 0, .int 0, .int 0, .int 0, .int (-1), .ref (B 6), .ref (B 7), .ref (B 8), .ref (B 9), .ref (B 10), .ref (B 11), .ref (B 12), .ref (B 13), .int 0, .int 0, .ref (B 14), .ref (B 15), .int 0, .int 0, .int 0, .ref (B 16), .ref (B 17), .int 0, .int 0, .int 0, .int 0, .int 0, .ref (B 18), .int 0, .int 0, .int 0])), ((B 1), .inl (cI, 4, .inl (fun _ => (-1))))]) [0, 51, 52, 54, 56, 58, 60, 61] rfl rfl
  refine lv_aload_n hx hb dL_law_2299 rfl (lv_at hl 2 rfl) ?_
  refine lv_aload_n hx hb dL_law_2300 rfl (lv_at hl 3 rfl) ?_
  refine lv_iload_n hx hb dL_law_2301 rfl (lv_at hl 0 rfl) ?_
  refine lv_iconst (v := 1) hx hb dL_law_2302 (by decide) ?_
  refine lv_iadd hx hb dL_law_2303 ?_
  refine pv_i (v := 1) (by decide) ?_
  refine va_sld hx hb hX hbl hbA hS (vp_in_iff.mpr ⟨by decide, by decide⟩) dL_law_2304 ?_
  refine lv_topi (fun p1 ep1 => ?_)
  refine lv_aload_n hx hb dL_law_2305 rfl (lv_at hl 3 rfl) ?_
  refine lv_iload_n hx hb dL_law_2306 rfl (lv_at hl 0 rfl) ?_
  refine lv_iconst (v := 2) hx hb dL_law_2307 (by decide) ?_
  refine lv_iadd hx hb dL_law_2308 ?_
  refine pv_i (v := 2) (by decide) ?_
  refine va_sld hx hb hX hbl hbA hS (vp_in_iff.mpr ⟨by decide, by decide⟩) dL_law_2309 ?_
  refine lv_topi (fun p2 ep2 => ?_)
  refine lv_aload_n hx hb dL_law_2310 rfl (lv_at hl 3 rfl) ?_
  refine lv_iload_n hx hb dL_law_2311 rfl (lv_at hl 0 rfl) ?_
  refine lv_iconst (v := 3) hx hb dL_law_2312 (by decide) ?_
  refine lv_iadd hx hb dL_law_2313 ?_
  refine pv_i (v := 3) (by decide) ?_
  refine va_sld hx hb hX hbl hbA hS (vp_in_iff.mpr ⟨by decide, by decide⟩) dL_law_2314 ?_
  refine lv_topi (fun p3 ep3 => ?_)
  refine lv_aload_n hx hb dL_law_2315 rfl (lv_at hl 3 rfl) ?_
  refine lv_iload_n hx hb dL_law_2316 rfl (lv_at hl 0 rfl) ?_
  refine lv_iconst (v := 4) hx hb dL_law_2317 (by decide) ?_
  refine lv_iadd hx hb dL_law_2318 ?_
  refine pv_i (v := 4) (by decide) ?_
  refine va_sld hx hb hX hbl hbA hS (vp_in_iff.mpr ⟨by decide, by decide⟩) dL_law_2319 ?_
  refine lv_topi (fun p4 ep4 => ?_)
  refine lv_aload_n hx hb dL_law_2320 rfl (lv_at hl 3 rfl) ?_
  refine lv_iload_n hx hb dL_law_2321 rfl (lv_at hl 0 rfl) ?_
  refine lv_iconst (v := 5) hx hb dL_law_2322 (by decide) ?_
  refine lv_iadd hx hb dL_law_2323 ?_
  refine pv_i (v := 5) (by decide) ?_
  refine va_sld hx hb hX hbl hbA hS (vp_in_iff.mpr ⟨by decide, by decide⟩) dL_law_2324 ?_
  refine lv_topi (fun p5 ep5 => ?_)
  by_cases hc1 : 0 ≤ p1 ∧ p1 ≤ 3
  · by_cases hc2 : 0 ≤ p3 ∧ p3 ≤ 3
    · rcases case4 hc1 with e9 | e9 | e9 | e9
      · subst e9
        rcases case4 hc2 with e9 | e9 | e9 | e9
        · subst e9
          refine cvR (n := 5) (As := [.int 0, .int p2, .int 0, .int p4, .int p5]) (rest := []) ⟨hx, hb, hml, hown, hts⟩ (fun _ h => uw_in h) (kX9_paste_0 l D cB cI cJ cZ cT cR (A 0) (A 51) (A 52) (A 1) (A 3) (A 12) (A 21) (A 49) (A 60) (A 61) (A 62) (A 63) (A 64) (A 54) (A 56) (A 58) (A 53) p2 p4 p5) q_m1173 q_n1174 q_e1175 q_i1 q_c1176 (by decide +kernel) ⟨(Nat.le_of_ble_eq_true rfl), (Nat.le_of_ble_eq_true rfl)⟩ ⟨(Nat.le_of_ble_eq_true rfl), (Nat.le_of_ble_eq_true rfl)⟩ hK (hP.sub (ws' := [((A 0), .inr (9, [.ref (A 1), .ref (A 3), .ref (A 12), .ref (A 21), .int 0, .ref (A 49), .ref (A 51), .ref (A 60), .ref (A 61), .ref (A 62), .ref (A 63), .ref (A 64)])), ((A 51), .inl (cR, 4, .inr (.inr (.inr (.inr (va_up (va_up (va_up (va_up (fun _ => none) 0 (some (A 52))) 1 (some (A 54))) 2 (some (A 56))) 3 (some (A 58)))))))), ((A 52), .inr (3, [.int (-1), .int 0, .ref (A 53)]))]) [0, 1, 2] rfl) 9 0 rfl rfl rfl hl.1 rfl (Nat.le_of_ble_eq_true rfl) dL_law_2325 ?_
          refine lv_aload_n hx hb dL_law_2328 rfl (lv_at hl 1 rfl) ?_
          refine lv_aload_n hx hb dL_law_2329 rfl (lv_at hl 3 rfl) ?_
          refine lv_iload_n hx hb dL_law_2330 rfl (lv_at hl 0 rfl) ?_
          refine lv_iconst (v := 1) hx hb dL_law_2331 (by decide) ?_
          refine lv_iadd hx hb dL_law_2332 ?_
          refine pv_i (v := 1) (by decide) ?_
          refine va_sld hx hb hX hbl hbA hS (vp_in_iff.mpr ⟨by decide, by decide⟩) dL_law_2333 ?_
          refine pv_i (v := 0) ep1.symm ?_
          refine lv_aload_n hx hb dL_law_2334 rfl (lv_at hl 3 rfl) ?_
          refine lv_iload_n hx hb dL_law_2335 rfl (lv_at hl 0 rfl) ?_
          refine lv_iconst (v := 2) hx hb dL_law_2336 (by decide) ?_
          refine lv_iadd hx hb dL_law_2337 ?_
          refine pv_i (v := 2) (by decide) ?_
          refine va_sld hx hb hX hbl hbA hS (vp_in_iff.mpr ⟨by decide, by decide⟩) dL_law_2338 ?_
          refine pv_i (v := p2) ep2.symm ?_
          refine lv_aload_n hx hb dL_law_2339 rfl (lv_at hl 3 rfl) ?_
          refine lv_iload_n hx hb dL_law_2340 rfl (lv_at hl 0 rfl) ?_
          refine lv_iconst (v := 3) hx hb dL_law_2341 (by decide) ?_
          refine lv_iadd hx hb dL_law_2342 ?_
          refine pv_i (v := 3) (by decide) ?_
          refine va_sld hx hb hX hbl hbA hS (vp_in_iff.mpr ⟨by decide, by decide⟩) dL_law_2343 ?_
          refine pv_i (v := 0) ep3.symm ?_
          refine lv_aload_n hx hb dL_law_2344 rfl (lv_at hl 3 rfl) ?_
          refine lv_iload_n hx hb dL_law_2345 rfl (lv_at hl 0 rfl) ?_
          refine lv_iconst (v := 4) hx hb dL_law_2346 (by decide) ?_
          refine lv_iadd hx hb dL_law_2347 ?_
          refine pv_i (v := 4) (by decide) ?_
          refine va_sld hx hb hX hbl hbA hS (vp_in_iff.mpr ⟨by decide, by decide⟩) dL_law_2348 ?_
          refine pv_i (v := p4) ep4.symm ?_
          refine lv_aload_n hx hb dL_law_2349 rfl (lv_at hl 3 rfl) ?_
          refine lv_iload_n hx hb dL_law_2350 rfl (lv_at hl 0 rfl) ?_
          refine lv_iconst (v := 5) hx hb dL_law_2351 (by decide) ?_
          refine lv_iadd hx hb dL_law_2352 ?_
          refine pv_i (v := 5) (by decide) ?_
          refine va_sld hx hb hX hbl hbA hS (vp_in_iff.mpr ⟨by decide, by decide⟩) dL_law_2353 ?_
          refine pv_i (v := p5) ep5.symm ?_
          refine cvM (n := 5) (As := [.int 0, .int p2, .int 0, .int p4, .int p5]) (rest := [.int (-6)]) (wr := [((A 0), .inr (9, [.ref (A 1), .ref (A 3), .ref (A 12), .ref (A 21), .int 0, .ref (A 49), .ref (A 51), .ref (A 60), .ref (A 61), .ref (A 62), .ref (A 63), .ref (A 64)])), ((A 51), .inl (cR, 4, .inr (.inr (.inr (.inr (va_up (va_up (va_up (va_up (fun _ => none) 0 (some (A 52))) 1 (some (A 54))) 2 (some (A 56))) 3 (some (A 58)))))))), ((A 52), .inr (3, [.int (-1), .int 0, .ref (A 53)])), ((A 54), .inr (3, [.int (-1), .int 0, .ref (A 55)])), ((A 56), .inr (3, [.int (-1), .int 0, .ref (A 57)])), ((A 58), .inr (3, [.int (-1), .int 0, .ref (A 59)]))]) ⟨hx, hb, hml, hown, hts⟩ (fun _ h => uw_in h) (kX10_paste_0 l D cB cI cJ cZ cT cR (B 0) (B 1) (B 2) (B 3) (B 4) (B 5) (B 6) (B 7) (B 8) (B 9) (B 10) (B 11) (B 12) (B 13) (B 14) (B 15) (B 16) (B 17) (B 18) p2 p4 p5 H.size) q_m1334 q_n1335 q_e1336 q_i11 q_c1337 (by decide +kernel) ⟨(Nat.le_of_ble_eq_true rfl), (Nat.le_of_ble_eq_true rfl)⟩ ⟨(Nat.le_of_ble_eq_true rfl), (Nat.le_of_ble_eq_true rfl)⟩ hE hK hP hD hS hA [6, 7] [0, 1, 2, 3, 4, 5] rfl rfl rfl rfl (by decide) 10 0 rfl rfl rfl hl.1 rfl (Nat.le_of_ble_eq_true rfl) dL_law_2354 (fun r9 u H locs hpo hP hD hS => ?_)
          have hP : va_P D vwCl [((A 0), .inr (9, [.ref (A 1), .ref (A 3), .ref (A 12), .ref (A 21), .int 0, .ref (A 49), .ref (A 51), .ref (A 60), .ref (A 61), .ref (A 62), .ref (A 63), .ref (A 64)])), ((A 51), .inl (cR, 4, .inr (.inr (.inr (.inr (va_up (va_up (va_up (va_up (fun _ => none) 0 (some (A 52))) 1 (some (A 54))) 2 (some (A 56))) 3 (some (A 58)))))))), ((A 52), .inr (3, [.int (-1), .int 0, .ref (A 53)])), ((A 54), .inr (3, [.int (-1), .int 0, .ref (A 55)])), ((A 56), .inr (3, [.int (-1), .int 0, .ref (A 57)])), ((A 58), .inr (3, [.int (-1), .int 0, .ref (A 59)])), ((B 0), .inr (10, [.int 0, .ref (B 1), .ref (B 2), .ref (B 3), .ref (B 4), .ref (B 5), .int 0, .int 0, .int 0, .int 0, .int 0, .long 0, .int 0, .int 0, .int 0, .int (-1), .ref (B 6), .ref (B 7), .ref (B 8), .ref (B 9), .ref (B 10), .ref (B 11), .ref (B 12), .ref (B 13), .int 0, .int 0, .ref (B 14), .ref (B 15), .int 0, .int 0, .int 0, .ref (B 16), .ref (B 17), .int 0, .int 0, .int 0, .int 0, .int 0, .ref (B 18), .int 0, .int 0, .int 0])), ((B 1), .inl (cI, 4, .inl (fun _ => (-1))))] H := hP
          have hD : va_D (fun q : Nat => s.heap.size ≤ q) [((A 0), .inr (9, [.ref (A 1), .ref (A 3), .ref (A 12), .ref (A 21), .int 0, .ref (A 49), .ref (A 51), .ref (A 60), .ref (A 61), .ref (A 62), .ref (A 63), .ref (A 64)])), ((A 51), .inl (cR, 4, .inr (.inr (.inr (.inr (va_up (va_up (va_up (va_up (fun _ => none) 0 (some (A 52))) 1 (some (A 54))) 2 (some (A 56))) 3 (some (A 58)))))))), ((A 52), .inr (3, [.int (-1), .int 0, .ref (A 53)])), ((A 54), .inr (3, [.int (-1), .int 0, .ref (A 55)])), ((A 56), .inr (3, [.int (-1), .int 0, .ref (A 57)])), ((A 58), .inr (3, [.int (-1), .int 0, .ref (A 59)])), ((B 0), .inr (10, [.int 0, .ref (B 1), .ref (B 2), .ref (B 3), .ref (B 4), .ref (B 5), .int 0, .int 0, .int 0, .int 0, .int 0, .long 0, .int 0, .int 0, .int 0, .int (-1), .ref (B 6), .ref (B 7), .ref (B 8), .ref (B 9), .ref (B 10), .ref (B 11), .ref (B 12), .ref (B 13), .int 0, .int 0, .ref (B 14), .ref (B 15), .int 0, .int 0, .int 0, .ref (B 16), .ref (B 17), .int 0, .int 0, .int 0, .int 0, .int 0, .ref (B 18), .int 0, .int 0, .int 0])), ((B 1), .inl (cI, 4, .inl (fun _ => (-1))))] := hD
          refine W.cs (cells' := 180) (slots' := 4779) rfl rfl ?_
          refine pv_i (v := (-6)) hpo ?_
          refine lv_icmp_eq (tgt := 2362) hx hb dL_law_2357 (by decide) (fun _ => ?_) (fun c9 => absurd (by decide) c9)
          exact law_end C0 hS (Nat.le_of_ble_eq_true rfl) (Nat.le_of_ble_eq_true rfl) ls hl
        · subst e9
          refine cvR (n := 5) (As := [.int 0, .int p2, .int 1, .int p4, .int p5]) (rest := []) ⟨hx, hb, hml, hown, hts⟩ (fun _ h => uw_in h) (kX9_paste_1 l D cB cI cJ cZ cT cR (A 0) (A 51) (A 52) (A 1) (A 3) (A 12) (A 21) (A 49) (A 60) (A 61) (A 62) (A 63) (A 64) (A 54) (A 56) (A 58) (A 53) p2 p4 p5) q_m1173 q_n1174 q_e1175 q_i1 q_c1176 (by decide +kernel) ⟨(Nat.le_of_ble_eq_true rfl), (Nat.le_of_ble_eq_true rfl)⟩ ⟨(Nat.le_of_ble_eq_true rfl), (Nat.le_of_ble_eq_true rfl)⟩ hK (hP.sub (ws' := [((A 0), .inr (9, [.ref (A 1), .ref (A 3), .ref (A 12), .ref (A 21), .int 0, .ref (A 49), .ref (A 51), .ref (A 60), .ref (A 61), .ref (A 62), .ref (A 63), .ref (A 64)])), ((A 51), .inl (cR, 4, .inr (.inr (.inr (.inr (va_up (va_up (va_up (va_up (fun _ => none) 0 (some (A 52))) 1 (some (A 54))) 2 (some (A 56))) 3 (some (A 58)))))))), ((A 52), .inr (3, [.int (-1), .int 0, .ref (A 53)]))]) [0, 1, 2] rfl) 9 0 rfl rfl rfl hl.1 rfl (Nat.le_of_ble_eq_true rfl) dL_law_2325 ?_
          refine lv_aload_n hx hb dL_law_2328 rfl (lv_at hl 1 rfl) ?_
          refine lv_aload_n hx hb dL_law_2329 rfl (lv_at hl 3 rfl) ?_
          refine lv_iload_n hx hb dL_law_2330 rfl (lv_at hl 0 rfl) ?_
          refine lv_iconst (v := 1) hx hb dL_law_2331 (by decide) ?_
          refine lv_iadd hx hb dL_law_2332 ?_
          refine pv_i (v := 1) (by decide) ?_
          refine va_sld hx hb hX hbl hbA hS (vp_in_iff.mpr ⟨by decide, by decide⟩) dL_law_2333 ?_
          refine pv_i (v := 0) ep1.symm ?_
          refine lv_aload_n hx hb dL_law_2334 rfl (lv_at hl 3 rfl) ?_
          refine lv_iload_n hx hb dL_law_2335 rfl (lv_at hl 0 rfl) ?_
          refine lv_iconst (v := 2) hx hb dL_law_2336 (by decide) ?_
          refine lv_iadd hx hb dL_law_2337 ?_
          refine pv_i (v := 2) (by decide) ?_
          refine va_sld hx hb hX hbl hbA hS (vp_in_iff.mpr ⟨by decide, by decide⟩) dL_law_2338 ?_
          refine pv_i (v := p2) ep2.symm ?_
          refine lv_aload_n hx hb dL_law_2339 rfl (lv_at hl 3 rfl) ?_
          refine lv_iload_n hx hb dL_law_2340 rfl (lv_at hl 0 rfl) ?_
          refine lv_iconst (v := 3) hx hb dL_law_2341 (by decide) ?_
          refine lv_iadd hx hb dL_law_2342 ?_
          refine pv_i (v := 3) (by decide) ?_
          refine va_sld hx hb hX hbl hbA hS (vp_in_iff.mpr ⟨by decide, by decide⟩) dL_law_2343 ?_
          refine pv_i (v := 1) ep3.symm ?_
          refine lv_aload_n hx hb dL_law_2344 rfl (lv_at hl 3 rfl) ?_
          refine lv_iload_n hx hb dL_law_2345 rfl (lv_at hl 0 rfl) ?_
          refine lv_iconst (v := 4) hx hb dL_law_2346 (by decide) ?_
          refine lv_iadd hx hb dL_law_2347 ?_
          refine pv_i (v := 4) (by decide) ?_
          refine va_sld hx hb hX hbl hbA hS (vp_in_iff.mpr ⟨by decide, by decide⟩) dL_law_2348 ?_
          refine pv_i (v := p4) ep4.symm ?_
          refine lv_aload_n hx hb dL_law_2349 rfl (lv_at hl 3 rfl) ?_
          refine lv_iload_n hx hb dL_law_2350 rfl (lv_at hl 0 rfl) ?_
          refine lv_iconst (v := 5) hx hb dL_law_2351 (by decide) ?_
          refine lv_iadd hx hb dL_law_2352 ?_
          refine pv_i (v := 5) (by decide) ?_
          refine va_sld hx hb hX hbl hbA hS (vp_in_iff.mpr ⟨by decide, by decide⟩) dL_law_2353 ?_
          refine pv_i (v := p5) ep5.symm ?_
          refine cvM (n := 5) (As := [.int 0, .int p2, .int 1, .int p4, .int p5]) (rest := [.int (-6)]) (wr := [((A 0), .inr (9, [.ref (A 1), .ref (A 3), .ref (A 12), .ref (A 21), .int 0, .ref (A 49), .ref (A 51), .ref (A 60), .ref (A 61), .ref (A 62), .ref (A 63), .ref (A 64)])), ((A 51), .inl (cR, 4, .inr (.inr (.inr (.inr (va_up (va_up (va_up (va_up (fun _ => none) 0 (some (A 52))) 1 (some (A 54))) 2 (some (A 56))) 3 (some (A 58)))))))), ((A 52), .inr (3, [.int (-1), .int 0, .ref (A 53)])), ((A 54), .inr (3, [.int (-1), .int 0, .ref (A 55)])), ((A 56), .inr (3, [.int (-1), .int 0, .ref (A 57)])), ((A 58), .inr (3, [.int (-1), .int 0, .ref (A 59)]))]) ⟨hx, hb, hml, hown, hts⟩ (fun _ h => uw_in h) (kX10_paste_1 l D cB cI cJ cZ cT cR (B 0) (B 1) (B 2) (B 3) (B 4) (B 5) (B 6) (B 7) (B 8) (B 9) (B 10) (B 11) (B 12) (B 13) (B 14) (B 15) (B 16) (B 17) (B 18) p2 p4 p5 H.size) q_m1334 q_n1335 q_e1336 q_i11 q_c1337 (by decide +kernel) ⟨(Nat.le_of_ble_eq_true rfl), (Nat.le_of_ble_eq_true rfl)⟩ ⟨(Nat.le_of_ble_eq_true rfl), (Nat.le_of_ble_eq_true rfl)⟩ hE hK hP hD hS hA [6, 7] [0, 1, 2, 3, 4, 5] rfl rfl rfl rfl (by decide) 10 0 rfl rfl rfl hl.1 rfl (Nat.le_of_ble_eq_true rfl) dL_law_2354 (fun r9 u H locs hpo hP hD hS => ?_)
          have hP : va_P D vwCl [((A 0), .inr (9, [.ref (A 1), .ref (A 3), .ref (A 12), .ref (A 21), .int 0, .ref (A 49), .ref (A 51), .ref (A 60), .ref (A 61), .ref (A 62), .ref (A 63), .ref (A 64)])), ((A 51), .inl (cR, 4, .inr (.inr (.inr (.inr (va_up (va_up (va_up (va_up (fun _ => none) 0 (some (A 52))) 1 (some (A 54))) 2 (some (A 56))) 3 (some (A 58)))))))), ((A 52), .inr (3, [.int (-1), .int 0, .ref (A 53)])), ((A 54), .inr (3, [.int (-1), .int 0, .ref (A 55)])), ((A 56), .inr (3, [.int (-1), .int 0, .ref (A 57)])), ((A 58), .inr (3, [.int (-1), .int 0, .ref (A 59)])), ((B 0), .inr (10, [.int 0, .ref (B 1), .ref (B 2), .ref (B 3), .ref (B 4), .ref (B 5), .int 0, .int 0, .int 0, .int 0, .int 0, .long 0, .int 0, .int 0, .int 0, .int (-1), .ref (B 6), .ref (B 7), .ref (B 8), .ref (B 9), .ref (B 10), .ref (B 11), .ref (B 12), .ref (B 13), .int 0, .int 0, .ref (B 14), .ref (B 15), .int 0, .int 0, .int 0, .ref (B 16), .ref (B 17), .int 0, .int 0, .int 0, .int 0, .int 0, .ref (B 18), .int 0, .int 0, .int 0])), ((B 1), .inl (cI, 4, .inl (fun _ => (-1))))] H := hP
          have hD : va_D (fun q : Nat => s.heap.size ≤ q) [((A 0), .inr (9, [.ref (A 1), .ref (A 3), .ref (A 12), .ref (A 21), .int 0, .ref (A 49), .ref (A 51), .ref (A 60), .ref (A 61), .ref (A 62), .ref (A 63), .ref (A 64)])), ((A 51), .inl (cR, 4, .inr (.inr (.inr (.inr (va_up (va_up (va_up (va_up (fun _ => none) 0 (some (A 52))) 1 (some (A 54))) 2 (some (A 56))) 3 (some (A 58)))))))), ((A 52), .inr (3, [.int (-1), .int 0, .ref (A 53)])), ((A 54), .inr (3, [.int (-1), .int 0, .ref (A 55)])), ((A 56), .inr (3, [.int (-1), .int 0, .ref (A 57)])), ((A 58), .inr (3, [.int (-1), .int 0, .ref (A 59)])), ((B 0), .inr (10, [.int 0, .ref (B 1), .ref (B 2), .ref (B 3), .ref (B 4), .ref (B 5), .int 0, .int 0, .int 0, .int 0, .int 0, .long 0, .int 0, .int 0, .int 0, .int (-1), .ref (B 6), .ref (B 7), .ref (B 8), .ref (B 9), .ref (B 10), .ref (B 11), .ref (B 12), .ref (B 13), .int 0, .int 0, .ref (B 14), .ref (B 15), .int 0, .int 0, .int 0, .ref (B 16), .ref (B 17), .int 0, .int 0, .int 0, .int 0, .int 0, .ref (B 18), .int 0, .int 0, .int 0])), ((B 1), .inl (cI, 4, .inl (fun _ => (-1))))] := hD
          refine W.cs (cells' := 180) (slots' := 4779) rfl rfl ?_
          refine pv_i (v := (-6)) hpo ?_
          refine lv_icmp_eq (tgt := 2362) hx hb dL_law_2357 (by decide) (fun _ => ?_) (fun c9 => absurd (by decide) c9)
          exact law_end C0 hS (Nat.le_of_ble_eq_true rfl) (Nat.le_of_ble_eq_true rfl) ls hl
        · subst e9
          refine cvR (n := 5) (As := [.int 0, .int p2, .int 2, .int p4, .int p5]) (rest := []) ⟨hx, hb, hml, hown, hts⟩ (fun _ h => uw_in h) (kX9_paste_2 l D cB cI cJ cZ cT cR (A 0) (A 51) (A 52) (A 1) (A 3) (A 12) (A 21) (A 49) (A 60) (A 61) (A 62) (A 63) (A 64) (A 54) (A 56) (A 58) (A 53) p2 p4 p5) q_m1173 q_n1174 q_e1175 q_i1 q_c1176 (by decide +kernel) ⟨(Nat.le_of_ble_eq_true rfl), (Nat.le_of_ble_eq_true rfl)⟩ ⟨(Nat.le_of_ble_eq_true rfl), (Nat.le_of_ble_eq_true rfl)⟩ hK (hP.sub (ws' := [((A 0), .inr (9, [.ref (A 1), .ref (A 3), .ref (A 12), .ref (A 21), .int 0, .ref (A 49), .ref (A 51), .ref (A 60), .ref (A 61), .ref (A 62), .ref (A 63), .ref (A 64)])), ((A 51), .inl (cR, 4, .inr (.inr (.inr (.inr (va_up (va_up (va_up (va_up (fun _ => none) 0 (some (A 52))) 1 (some (A 54))) 2 (some (A 56))) 3 (some (A 58)))))))), ((A 52), .inr (3, [.int (-1), .int 0, .ref (A 53)]))]) [0, 1, 2] rfl) 9 0 rfl rfl rfl hl.1 rfl (Nat.le_of_ble_eq_true rfl) dL_law_2325 ?_
          refine lv_aload_n hx hb dL_law_2328 rfl (lv_at hl 1 rfl) ?_
          refine lv_aload_n hx hb dL_law_2329 rfl (lv_at hl 3 rfl) ?_
          refine lv_iload_n hx hb dL_law_2330 rfl (lv_at hl 0 rfl) ?_
          refine lv_iconst (v := 1) hx hb dL_law_2331 (by decide) ?_
          refine lv_iadd hx hb dL_law_2332 ?_
          refine pv_i (v := 1) (by decide) ?_
          refine va_sld hx hb hX hbl hbA hS (vp_in_iff.mpr ⟨by decide, by decide⟩) dL_law_2333 ?_
          refine pv_i (v := 0) ep1.symm ?_
          refine lv_aload_n hx hb dL_law_2334 rfl (lv_at hl 3 rfl) ?_
          refine lv_iload_n hx hb dL_law_2335 rfl (lv_at hl 0 rfl) ?_
          refine lv_iconst (v := 2) hx hb dL_law_2336 (by decide) ?_
          refine lv_iadd hx hb dL_law_2337 ?_
          refine pv_i (v := 2) (by decide) ?_
          refine va_sld hx hb hX hbl hbA hS (vp_in_iff.mpr ⟨by decide, by decide⟩) dL_law_2338 ?_
          refine pv_i (v := p2) ep2.symm ?_
          refine lv_aload_n hx hb dL_law_2339 rfl (lv_at hl 3 rfl) ?_
          refine lv_iload_n hx hb dL_law_2340 rfl (lv_at hl 0 rfl) ?_
          refine lv_iconst (v := 3) hx hb dL_law_2341 (by decide) ?_
          refine lv_iadd hx hb dL_law_2342 ?_
          refine pv_i (v := 3) (by decide) ?_
          refine va_sld hx hb hX hbl hbA hS (vp_in_iff.mpr ⟨by decide, by decide⟩) dL_law_2343 ?_
          refine pv_i (v := 2) ep3.symm ?_
          refine lv_aload_n hx hb dL_law_2344 rfl (lv_at hl 3 rfl) ?_
          refine lv_iload_n hx hb dL_law_2345 rfl (lv_at hl 0 rfl) ?_
          refine lv_iconst (v := 4) hx hb dL_law_2346 (by decide) ?_
          refine lv_iadd hx hb dL_law_2347 ?_
          refine pv_i (v := 4) (by decide) ?_
          refine va_sld hx hb hX hbl hbA hS (vp_in_iff.mpr ⟨by decide, by decide⟩) dL_law_2348 ?_
          refine pv_i (v := p4) ep4.symm ?_
          refine lv_aload_n hx hb dL_law_2349 rfl (lv_at hl 3 rfl) ?_
          refine lv_iload_n hx hb dL_law_2350 rfl (lv_at hl 0 rfl) ?_
          refine lv_iconst (v := 5) hx hb dL_law_2351 (by decide) ?_
          refine lv_iadd hx hb dL_law_2352 ?_
          refine pv_i (v := 5) (by decide) ?_
          refine va_sld hx hb hX hbl hbA hS (vp_in_iff.mpr ⟨by decide, by decide⟩) dL_law_2353 ?_
          refine pv_i (v := p5) ep5.symm ?_
          refine cvM (n := 5) (As := [.int 0, .int p2, .int 2, .int p4, .int p5]) (rest := [.int (-6)]) (wr := [((A 0), .inr (9, [.ref (A 1), .ref (A 3), .ref (A 12), .ref (A 21), .int 0, .ref (A 49), .ref (A 51), .ref (A 60), .ref (A 61), .ref (A 62), .ref (A 63), .ref (A 64)])), ((A 51), .inl (cR, 4, .inr (.inr (.inr (.inr (va_up (va_up (va_up (va_up (fun _ => none) 0 (some (A 52))) 1 (some (A 54))) 2 (some (A 56))) 3 (some (A 58)))))))), ((A 52), .inr (3, [.int (-1), .int 0, .ref (A 53)])), ((A 54), .inr (3, [.int (-1), .int 0, .ref (A 55)])), ((A 56), .inr (3, [.int (-1), .int 0, .ref (A 57)])), ((A 58), .inr (3, [.int (-1), .int 0, .ref (A 59)]))]) ⟨hx, hb, hml, hown, hts⟩ (fun _ h => uw_in h) (kX10_paste_2 l D cB cI cJ cZ cT cR (B 0) (B 1) (B 2) (B 3) (B 4) (B 5) (B 6) (B 7) (B 8) (B 9) (B 10) (B 11) (B 12) (B 13) (B 14) (B 15) (B 16) (B 17) (B 18) p2 p4 p5 H.size) q_m1334 q_n1335 q_e1336 q_i11 q_c1337 (by decide +kernel) ⟨(Nat.le_of_ble_eq_true rfl), (Nat.le_of_ble_eq_true rfl)⟩ ⟨(Nat.le_of_ble_eq_true rfl), (Nat.le_of_ble_eq_true rfl)⟩ hE hK hP hD hS hA [6, 7] [0, 1, 2, 3, 4, 5] rfl rfl rfl rfl (by decide) 10 0 rfl rfl rfl hl.1 rfl (Nat.le_of_ble_eq_true rfl) dL_law_2354 (fun r9 u H locs hpo hP hD hS => ?_)
          have hP : va_P D vwCl [((A 0), .inr (9, [.ref (A 1), .ref (A 3), .ref (A 12), .ref (A 21), .int 0, .ref (A 49), .ref (A 51), .ref (A 60), .ref (A 61), .ref (A 62), .ref (A 63), .ref (A 64)])), ((A 51), .inl (cR, 4, .inr (.inr (.inr (.inr (va_up (va_up (va_up (va_up (fun _ => none) 0 (some (A 52))) 1 (some (A 54))) 2 (some (A 56))) 3 (some (A 58)))))))), ((A 52), .inr (3, [.int (-1), .int 0, .ref (A 53)])), ((A 54), .inr (3, [.int (-1), .int 0, .ref (A 55)])), ((A 56), .inr (3, [.int (-1), .int 0, .ref (A 57)])), ((A 58), .inr (3, [.int (-1), .int 0, .ref (A 59)])), ((B 0), .inr (10, [.int 0, .ref (B 1), .ref (B 2), .ref (B 3), .ref (B 4), .ref (B 5), .int 0, .int 0, .int 0, .int 0, .int 0, .long 0, .int 0, .int 0, .int 0, .int (-1), .ref (B 6), .ref (B 7), .ref (B 8), .ref (B 9), .ref (B 10), .ref (B 11), .ref (B 12), .ref (B 13), .int 0, .int 0, .ref (B 14), .ref (B 15), .int 0, .int 0, .int 0, .ref (B 16), .ref (B 17), .int 0, .int 0, .int 0, .int 0, .int 0, .ref (B 18), .int 0, .int 0, .int 0])), ((B 1), .inl (cI, 4, .inl (fun _ => (-1))))] H := hP
          have hD : va_D (fun q : Nat => s.heap.size ≤ q) [((A 0), .inr (9, [.ref (A 1), .ref (A 3), .ref (A 12), .ref (A 21), .int 0, .ref (A 49), .ref (A 51), .ref (A 60), .ref (A 61), .ref (A 62), .ref (A 63), .ref (A 64)])), ((A 51), .inl (cR, 4, .inr (.inr (.inr (.inr (va_up (va_up (va_up (va_up (fun _ => none) 0 (some (A 52))) 1 (some (A 54))) 2 (some (A 56))) 3 (some (A 58)))))))), ((A 52), .inr (3, [.int (-1), .int 0, .ref (A 53)])), ((A 54), .inr (3, [.int (-1), .int 0, .ref (A 55)])), ((A 56), .inr (3, [.int (-1), .int 0, .ref (A 57)])), ((A 58), .inr (3, [.int (-1), .int 0, .ref (A 59)])), ((B 0), .inr (10, [.int 0, .ref (B 1), .ref (B 2), .ref (B 3), .ref (B 4), .ref (B 5), .int 0, .int 0, .int 0, .int 0, .int 0, .long 0, .int 0, .int 0, .int 0, .int (-1), .ref (B 6), .ref (B 7), .ref (B 8), .ref (B 9), .ref (B 10), .ref (B 11), .ref (B 12), .ref (B 13), .int 0, .int 0, .ref (B 14), .ref (B 15), .int 0, .int 0, .int 0, .ref (B 16), .ref (B 17), .int 0, .int 0, .int 0, .int 0, .int 0, .ref (B 18), .int 0, .int 0, .int 0])), ((B 1), .inl (cI, 4, .inl (fun _ => (-1))))] := hD
          refine W.cs (cells' := 180) (slots' := 4779) rfl rfl ?_
          refine pv_i (v := (-6)) hpo ?_
          refine lv_icmp_eq (tgt := 2362) hx hb dL_law_2357 (by decide) (fun _ => ?_) (fun c9 => absurd (by decide) c9)
          exact law_end C0 hS (Nat.le_of_ble_eq_true rfl) (Nat.le_of_ble_eq_true rfl) ls hl
        · subst e9
          refine cvR (n := 5) (As := [.int 0, .int p2, .int 3, .int p4, .int p5]) (rest := []) ⟨hx, hb, hml, hown, hts⟩ (fun _ h => uw_in h) (kX9_paste_3 l D cB cI cJ cZ cT cR (A 0) (A 51) (A 52) (A 1) (A 3) (A 12) (A 21) (A 49) (A 60) (A 61) (A 62) (A 63) (A 64) (A 54) (A 56) (A 58) (A 53) p2 p4 p5) q_m1173 q_n1174 q_e1175 q_i1 q_c1176 (by decide +kernel) ⟨(Nat.le_of_ble_eq_true rfl), (Nat.le_of_ble_eq_true rfl)⟩ ⟨(Nat.le_of_ble_eq_true rfl), (Nat.le_of_ble_eq_true rfl)⟩ hK (hP.sub (ws' := [((A 0), .inr (9, [.ref (A 1), .ref (A 3), .ref (A 12), .ref (A 21), .int 0, .ref (A 49), .ref (A 51), .ref (A 60), .ref (A 61), .ref (A 62), .ref (A 63), .ref (A 64)])), ((A 51), .inl (cR, 4, .inr (.inr (.inr (.inr (va_up (va_up (va_up (va_up (fun _ => none) 0 (some (A 52))) 1 (some (A 54))) 2 (some (A 56))) 3 (some (A 58)))))))), ((A 52), .inr (3, [.int (-1), .int 0, .ref (A 53)]))]) [0, 1, 2] rfl) 9 0 rfl rfl rfl hl.1 rfl (Nat.le_of_ble_eq_true rfl) dL_law_2325 ?_
          refine lv_aload_n hx hb dL_law_2328 rfl (lv_at hl 1 rfl) ?_
          refine lv_aload_n hx hb dL_law_2329 rfl (lv_at hl 3 rfl) ?_
          refine lv_iload_n hx hb dL_law_2330 rfl (lv_at hl 0 rfl) ?_
          refine lv_iconst (v := 1) hx hb dL_law_2331 (by decide) ?_
          refine lv_iadd hx hb dL_law_2332 ?_
          refine pv_i (v := 1) (by decide) ?_
          refine va_sld hx hb hX hbl hbA hS (vp_in_iff.mpr ⟨by decide, by decide⟩) dL_law_2333 ?_
          refine pv_i (v := 0) ep1.symm ?_
          refine lv_aload_n hx hb dL_law_2334 rfl (lv_at hl 3 rfl) ?_
          refine lv_iload_n hx hb dL_law_2335 rfl (lv_at hl 0 rfl) ?_
          refine lv_iconst (v := 2) hx hb dL_law_2336 (by decide) ?_
          refine lv_iadd hx hb dL_law_2337 ?_
          refine pv_i (v := 2) (by decide) ?_
          refine va_sld hx hb hX hbl hbA hS (vp_in_iff.mpr ⟨by decide, by decide⟩) dL_law_2338 ?_
          refine pv_i (v := p2) ep2.symm ?_
          refine lv_aload_n hx hb dL_law_2339 rfl (lv_at hl 3 rfl) ?_
          refine lv_iload_n hx hb dL_law_2340 rfl (lv_at hl 0 rfl) ?_
          refine lv_iconst (v := 3) hx hb dL_law_2341 (by decide) ?_
          refine lv_iadd hx hb dL_law_2342 ?_
          refine pv_i (v := 3) (by decide) ?_
          refine va_sld hx hb hX hbl hbA hS (vp_in_iff.mpr ⟨by decide, by decide⟩) dL_law_2343 ?_
          refine pv_i (v := 3) ep3.symm ?_
          refine lv_aload_n hx hb dL_law_2344 rfl (lv_at hl 3 rfl) ?_
          refine lv_iload_n hx hb dL_law_2345 rfl (lv_at hl 0 rfl) ?_
          refine lv_iconst (v := 4) hx hb dL_law_2346 (by decide) ?_
          refine lv_iadd hx hb dL_law_2347 ?_
          refine pv_i (v := 4) (by decide) ?_
          refine va_sld hx hb hX hbl hbA hS (vp_in_iff.mpr ⟨by decide, by decide⟩) dL_law_2348 ?_
          refine pv_i (v := p4) ep4.symm ?_
          refine lv_aload_n hx hb dL_law_2349 rfl (lv_at hl 3 rfl) ?_
          refine lv_iload_n hx hb dL_law_2350 rfl (lv_at hl 0 rfl) ?_
          refine lv_iconst (v := 5) hx hb dL_law_2351 (by decide) ?_
          refine lv_iadd hx hb dL_law_2352 ?_
          refine pv_i (v := 5) (by decide) ?_
          refine va_sld hx hb hX hbl hbA hS (vp_in_iff.mpr ⟨by decide, by decide⟩) dL_law_2353 ?_
          refine pv_i (v := p5) ep5.symm ?_
          refine cvM (n := 5) (As := [.int 0, .int p2, .int 3, .int p4, .int p5]) (rest := [.int (-6)]) (wr := [((A 0), .inr (9, [.ref (A 1), .ref (A 3), .ref (A 12), .ref (A 21), .int 0, .ref (A 49), .ref (A 51), .ref (A 60), .ref (A 61), .ref (A 62), .ref (A 63), .ref (A 64)])), ((A 51), .inl (cR, 4, .inr (.inr (.inr (.inr (va_up (va_up (va_up (va_up (fun _ => none) 0 (some (A 52))) 1 (some (A 54))) 2 (some (A 56))) 3 (some (A 58)))))))), ((A 52), .inr (3, [.int (-1), .int 0, .ref (A 53)])), ((A 54), .inr (3, [.int (-1), .int 0, .ref (A 55)])), ((A 56), .inr (3, [.int (-1), .int 0, .ref (A 57)])), ((A 58), .inr (3, [.int (-1), .int 0, .ref (A 59)]))]) ⟨hx, hb, hml, hown, hts⟩ (fun _ h => uw_in h) (kX10_paste_3 l D cB cI cJ cZ cT cR (B 0) (B 1) (B 2) (B 3) (B 4) (B 5) (B 6) (B 7) (B 8) (B 9) (B 10) (B 11) (B 12) (B 13) (B 14) (B 15) (B 16) (B 17) (B 18) p2 p4 p5 H.size) q_m1334 q_n1335 q_e1336 q_i11 q_c1337 (by decide +kernel) ⟨(Nat.le_of_ble_eq_true rfl), (Nat.le_of_ble_eq_true rfl)⟩ ⟨(Nat.le_of_ble_eq_true rfl), (Nat.le_of_ble_eq_true rfl)⟩ hE hK hP hD hS hA [6, 7] [0, 1, 2, 3, 4, 5] rfl rfl rfl rfl (by decide) 10 0 rfl rfl rfl hl.1 rfl (Nat.le_of_ble_eq_true rfl) dL_law_2354 (fun r9 u H locs hpo hP hD hS => ?_)
          have hP : va_P D vwCl [((A 0), .inr (9, [.ref (A 1), .ref (A 3), .ref (A 12), .ref (A 21), .int 0, .ref (A 49), .ref (A 51), .ref (A 60), .ref (A 61), .ref (A 62), .ref (A 63), .ref (A 64)])), ((A 51), .inl (cR, 4, .inr (.inr (.inr (.inr (va_up (va_up (va_up (va_up (fun _ => none) 0 (some (A 52))) 1 (some (A 54))) 2 (some (A 56))) 3 (some (A 58)))))))), ((A 52), .inr (3, [.int (-1), .int 0, .ref (A 53)])), ((A 54), .inr (3, [.int (-1), .int 0, .ref (A 55)])), ((A 56), .inr (3, [.int (-1), .int 0, .ref (A 57)])), ((A 58), .inr (3, [.int (-1), .int 0, .ref (A 59)])), ((B 0), .inr (10, [.int 0, .ref (B 1), .ref (B 2), .ref (B 3), .ref (B 4), .ref (B 5), .int 0, .int 0, .int 0, .int 0, .int 0, .long 0, .int 0, .int 0, .int 0, .int (-1), .ref (B 6), .ref (B 7), .ref (B 8), .ref (B 9), .ref (B 10), .ref (B 11), .ref (B 12), .ref (B 13), .int 0, .int 0, .ref (B 14), .ref (B 15), .int 0, .int 0, .int 0, .ref (B 16), .ref (B 17), .int 0, .int 0, .int 0, .int 0, .int 0, .ref (B 18), .int 0, .int 0, .int 0])), ((B 1), .inl (cI, 4, .inl (fun _ => (-1))))] H := hP
          have hD : va_D (fun q : Nat => s.heap.size ≤ q) [((A 0), .inr (9, [.ref (A 1), .ref (A 3), .ref (A 12), .ref (A 21), .int 0, .ref (A 49), .ref (A 51), .ref (A 60), .ref (A 61), .ref (A 62), .ref (A 63), .ref (A 64)])), ((A 51), .inl (cR, 4, .inr (.inr (.inr (.inr (va_up (va_up (va_up (va_up (fun _ => none) 0 (some (A 52))) 1 (some (A 54))) 2 (some (A 56))) 3 (some (A 58)))))))), ((A 52), .inr (3, [.int (-1), .int 0, .ref (A 53)])), ((A 54), .inr (3, [.int (-1), .int 0, .ref (A 55)])), ((A 56), .inr (3, [.int (-1), .int 0, .ref (A 57)])), ((A 58), .inr (3, [.int (-1), .int 0, .ref (A 59)])), ((B 0), .inr (10, [.int 0, .ref (B 1), .ref (B 2), .ref (B 3), .ref (B 4), .ref (B 5), .int 0, .int 0, .int 0, .int 0, .int 0, .long 0, .int 0, .int 0, .int 0, .int (-1), .ref (B 6), .ref (B 7), .ref (B 8), .ref (B 9), .ref (B 10), .ref (B 11), .ref (B 12), .ref (B 13), .int 0, .int 0, .ref (B 14), .ref (B 15), .int 0, .int 0, .int 0, .ref (B 16), .ref (B 17), .int 0, .int 0, .int 0, .int 0, .int 0, .ref (B 18), .int 0, .int 0, .int 0])), ((B 1), .inl (cI, 4, .inl (fun _ => (-1))))] := hD
          refine W.cs (cells' := 180) (slots' := 4779) rfl rfl ?_
          refine pv_i (v := (-6)) hpo ?_
          refine lv_icmp_eq (tgt := 2362) hx hb dL_law_2357 (by decide) (fun _ => ?_) (fun c9 => absurd (by decide) c9)
          exact law_end C0 hS (Nat.le_of_ble_eq_true rfl) (Nat.le_of_ble_eq_true rfl) ls hl
      · subst e9
        rcases case4 hc2 with e9 | e9 | e9 | e9
        · subst e9
          refine cvR (n := 5) (As := [.int 1, .int p2, .int 0, .int p4, .int p5]) (rest := []) ⟨hx, hb, hml, hown, hts⟩ (fun _ h => uw_in h) (kX9_paste_4 l D cB cI cJ cZ cT cR (A 0) (A 51) (A 54) (A 1) (A 3) (A 12) (A 21) (A 49) (A 60) (A 61) (A 62) (A 63) (A 64) (A 52) (A 56) (A 58) (A 55) p2 p4 p5) q_m1173 q_n1174 q_e1175 q_i1 q_c1176 (by decide +kernel) ⟨(Nat.le_of_ble_eq_true rfl), (Nat.le_of_ble_eq_true rfl)⟩ ⟨(Nat.le_of_ble_eq_true rfl), (Nat.le_of_ble_eq_true rfl)⟩ hK (hP.sub (ws' := [((A 0), .inr (9, [.ref (A 1), .ref (A 3), .ref (A 12), .ref (A 21), .int 0, .ref (A 49), .ref (A 51), .ref (A 60), .ref (A 61), .ref (A 62), .ref (A 63), .ref (A 64)])), ((A 51), .inl (cR, 4, .inr (.inr (.inr (.inr (va_up (va_up (va_up (va_up (fun _ => none) 0 (some (A 52))) 1 (some (A 54))) 2 (some (A 56))) 3 (some (A 58)))))))), ((A 54), .inr (3, [.int (-1), .int 0, .ref (A 55)]))]) [0, 1, 3] rfl) 9 0 rfl rfl rfl hl.1 rfl (Nat.le_of_ble_eq_true rfl) dL_law_2325 ?_
          refine lv_aload_n hx hb dL_law_2328 rfl (lv_at hl 1 rfl) ?_
          refine lv_aload_n hx hb dL_law_2329 rfl (lv_at hl 3 rfl) ?_
          refine lv_iload_n hx hb dL_law_2330 rfl (lv_at hl 0 rfl) ?_
          refine lv_iconst (v := 1) hx hb dL_law_2331 (by decide) ?_
          refine lv_iadd hx hb dL_law_2332 ?_
          refine pv_i (v := 1) (by decide) ?_
          refine va_sld hx hb hX hbl hbA hS (vp_in_iff.mpr ⟨by decide, by decide⟩) dL_law_2333 ?_
          refine pv_i (v := 1) ep1.symm ?_
          refine lv_aload_n hx hb dL_law_2334 rfl (lv_at hl 3 rfl) ?_
          refine lv_iload_n hx hb dL_law_2335 rfl (lv_at hl 0 rfl) ?_
          refine lv_iconst (v := 2) hx hb dL_law_2336 (by decide) ?_
          refine lv_iadd hx hb dL_law_2337 ?_
          refine pv_i (v := 2) (by decide) ?_
          refine va_sld hx hb hX hbl hbA hS (vp_in_iff.mpr ⟨by decide, by decide⟩) dL_law_2338 ?_
          refine pv_i (v := p2) ep2.symm ?_
          refine lv_aload_n hx hb dL_law_2339 rfl (lv_at hl 3 rfl) ?_
          refine lv_iload_n hx hb dL_law_2340 rfl (lv_at hl 0 rfl) ?_
          refine lv_iconst (v := 3) hx hb dL_law_2341 (by decide) ?_
          refine lv_iadd hx hb dL_law_2342 ?_
          refine pv_i (v := 3) (by decide) ?_
          refine va_sld hx hb hX hbl hbA hS (vp_in_iff.mpr ⟨by decide, by decide⟩) dL_law_2343 ?_
          refine pv_i (v := 0) ep3.symm ?_
          refine lv_aload_n hx hb dL_law_2344 rfl (lv_at hl 3 rfl) ?_
          refine lv_iload_n hx hb dL_law_2345 rfl (lv_at hl 0 rfl) ?_
          refine lv_iconst (v := 4) hx hb dL_law_2346 (by decide) ?_
          refine lv_iadd hx hb dL_law_2347 ?_
          refine pv_i (v := 4) (by decide) ?_
          refine va_sld hx hb hX hbl hbA hS (vp_in_iff.mpr ⟨by decide, by decide⟩) dL_law_2348 ?_
          refine pv_i (v := p4) ep4.symm ?_
          refine lv_aload_n hx hb dL_law_2349 rfl (lv_at hl 3 rfl) ?_
          refine lv_iload_n hx hb dL_law_2350 rfl (lv_at hl 0 rfl) ?_
          refine lv_iconst (v := 5) hx hb dL_law_2351 (by decide) ?_
          refine lv_iadd hx hb dL_law_2352 ?_
          refine pv_i (v := 5) (by decide) ?_
          refine va_sld hx hb hX hbl hbA hS (vp_in_iff.mpr ⟨by decide, by decide⟩) dL_law_2353 ?_
          refine pv_i (v := p5) ep5.symm ?_
          refine cvM (n := 5) (As := [.int 1, .int p2, .int 0, .int p4, .int p5]) (rest := [.int (-6)]) (wr := [((A 0), .inr (9, [.ref (A 1), .ref (A 3), .ref (A 12), .ref (A 21), .int 0, .ref (A 49), .ref (A 51), .ref (A 60), .ref (A 61), .ref (A 62), .ref (A 63), .ref (A 64)])), ((A 51), .inl (cR, 4, .inr (.inr (.inr (.inr (va_up (va_up (va_up (va_up (fun _ => none) 0 (some (A 52))) 1 (some (A 54))) 2 (some (A 56))) 3 (some (A 58)))))))), ((A 52), .inr (3, [.int (-1), .int 0, .ref (A 53)])), ((A 54), .inr (3, [.int (-1), .int 0, .ref (A 55)])), ((A 56), .inr (3, [.int (-1), .int 0, .ref (A 57)])), ((A 58), .inr (3, [.int (-1), .int 0, .ref (A 59)]))]) ⟨hx, hb, hml, hown, hts⟩ (fun _ h => uw_in h) (kX10_paste_4 l D cB cI cJ cZ cT cR (B 0) (B 1) (B 2) (B 3) (B 4) (B 5) (B 6) (B 7) (B 8) (B 9) (B 10) (B 11) (B 12) (B 13) (B 14) (B 15) (B 16) (B 17) (B 18) p2 p4 p5 H.size) q_m1334 q_n1335 q_e1336 q_i11 q_c1337 (by decide +kernel) ⟨(Nat.le_of_ble_eq_true rfl), (Nat.le_of_ble_eq_true rfl)⟩ ⟨(Nat.le_of_ble_eq_true rfl), (Nat.le_of_ble_eq_true rfl)⟩ hE hK hP hD hS hA [6, 7] [0, 1, 2, 3, 4, 5] rfl rfl rfl rfl (by decide) 10 0 rfl rfl rfl hl.1 rfl (Nat.le_of_ble_eq_true rfl) dL_law_2354 (fun r9 u H locs hpo hP hD hS => ?_)
          have hP : va_P D vwCl [((A 0), .inr (9, [.ref (A 1), .ref (A 3), .ref (A 12), .ref (A 21), .int 0, .ref (A 49), .ref (A 51), .ref (A 60), .ref (A 61), .ref (A 62), .ref (A 63), .ref (A 64)])), ((A 51), .inl (cR, 4, .inr (.inr (.inr (.inr (va_up (va_up (va_up (va_up (fun _ => none) 0 (some (A 52))) 1 (some (A 54))) 2 (some (A 56))) 3 (some (A 58)))))))), ((A 52), .inr (3, [.int (-1), .int 0, .ref (A 53)])), ((A 54), .inr (3, [.int (-1), .int 0, .ref (A 55)])), ((A 56), .inr (3, [.int (-1), .int 0, .ref (A 57)])), ((A 58), .inr (3, [.int (-1), .int 0, .ref (A 59)])), ((B 0), .inr (10, [.int 0, .ref (B 1), .ref (B 2), .ref (B 3), .ref (B 4), .ref (B 5), .int 0, .int 0, .int 0, .int 0, .int 0, .long 0, .int 0, .int 0, .int 0, .int (-1), .ref (B 6), .ref (B 7), .ref (B 8), .ref (B 9), .ref (B 10), .ref (B 11), .ref (B 12), .ref (B 13), .int 0, .int 0, .ref (B 14), .ref (B 15), .int 0, .int 0, .int 0, .ref (B 16), .ref (B 17), .int 0, .int 0, .int 0, .int 0, .int 0, .ref (B 18), .int 0, .int 0, .int 0])), ((B 1), .inl (cI, 4, .inl (fun _ => (-1))))] H := hP
          have hD : va_D (fun q : Nat => s.heap.size ≤ q) [((A 0), .inr (9, [.ref (A 1), .ref (A 3), .ref (A 12), .ref (A 21), .int 0, .ref (A 49), .ref (A 51), .ref (A 60), .ref (A 61), .ref (A 62), .ref (A 63), .ref (A 64)])), ((A 51), .inl (cR, 4, .inr (.inr (.inr (.inr (va_up (va_up (va_up (va_up (fun _ => none) 0 (some (A 52))) 1 (some (A 54))) 2 (some (A 56))) 3 (some (A 58)))))))), ((A 52), .inr (3, [.int (-1), .int 0, .ref (A 53)])), ((A 54), .inr (3, [.int (-1), .int 0, .ref (A 55)])), ((A 56), .inr (3, [.int (-1), .int 0, .ref (A 57)])), ((A 58), .inr (3, [.int (-1), .int 0, .ref (A 59)])), ((B 0), .inr (10, [.int 0, .ref (B 1), .ref (B 2), .ref (B 3), .ref (B 4), .ref (B 5), .int 0, .int 0, .int 0, .int 0, .int 0, .long 0, .int 0, .int 0, .int 0, .int (-1), .ref (B 6), .ref (B 7), .ref (B 8), .ref (B 9), .ref (B 10), .ref (B 11), .ref (B 12), .ref (B 13), .int 0, .int 0, .ref (B 14), .ref (B 15), .int 0, .int 0, .int 0, .ref (B 16), .ref (B 17), .int 0, .int 0, .int 0, .int 0, .int 0, .ref (B 18), .int 0, .int 0, .int 0])), ((B 1), .inl (cI, 4, .inl (fun _ => (-1))))] := hD
          refine W.cs (cells' := 180) (slots' := 4779) rfl rfl ?_
          refine pv_i (v := (-6)) hpo ?_
          refine lv_icmp_eq (tgt := 2362) hx hb dL_law_2357 (by decide) (fun _ => ?_) (fun c9 => absurd (by decide) c9)
          exact law_end C0 hS (Nat.le_of_ble_eq_true rfl) (Nat.le_of_ble_eq_true rfl) ls hl
        · subst e9
          refine cvR (n := 5) (As := [.int 1, .int p2, .int 1, .int p4, .int p5]) (rest := []) ⟨hx, hb, hml, hown, hts⟩ (fun _ h => uw_in h) (kX9_paste_5 l D cB cI cJ cZ cT cR (A 0) (A 51) (A 54) (A 1) (A 3) (A 12) (A 21) (A 49) (A 60) (A 61) (A 62) (A 63) (A 64) (A 52) (A 56) (A 58) (A 55) p2 p4 p5) q_m1173 q_n1174 q_e1175 q_i1 q_c1176 (by decide +kernel) ⟨(Nat.le_of_ble_eq_true rfl), (Nat.le_of_ble_eq_true rfl)⟩ ⟨(Nat.le_of_ble_eq_true rfl), (Nat.le_of_ble_eq_true rfl)⟩ hK (hP.sub (ws' := [((A 0), .inr (9, [.ref (A 1), .ref (A 3), .ref (A 12), .ref (A 21), .int 0, .ref (A 49), .ref (A 51), .ref (A 60), .ref (A 61), .ref (A 62), .ref (A 63), .ref (A 64)])), ((A 51), .inl (cR, 4, .inr (.inr (.inr (.inr (va_up (va_up (va_up (va_up (fun _ => none) 0 (some (A 52))) 1 (some (A 54))) 2 (some (A 56))) 3 (some (A 58)))))))), ((A 54), .inr (3, [.int (-1), .int 0, .ref (A 55)]))]) [0, 1, 3] rfl) 9 0 rfl rfl rfl hl.1 rfl (Nat.le_of_ble_eq_true rfl) dL_law_2325 ?_
          refine lv_aload_n hx hb dL_law_2328 rfl (lv_at hl 1 rfl) ?_
          refine lv_aload_n hx hb dL_law_2329 rfl (lv_at hl 3 rfl) ?_
          refine lv_iload_n hx hb dL_law_2330 rfl (lv_at hl 0 rfl) ?_
          refine lv_iconst (v := 1) hx hb dL_law_2331 (by decide) ?_
          refine lv_iadd hx hb dL_law_2332 ?_
          refine pv_i (v := 1) (by decide) ?_
          refine va_sld hx hb hX hbl hbA hS (vp_in_iff.mpr ⟨by decide, by decide⟩) dL_law_2333 ?_
          refine pv_i (v := 1) ep1.symm ?_
          refine lv_aload_n hx hb dL_law_2334 rfl (lv_at hl 3 rfl) ?_
          refine lv_iload_n hx hb dL_law_2335 rfl (lv_at hl 0 rfl) ?_
          refine lv_iconst (v := 2) hx hb dL_law_2336 (by decide) ?_
          refine lv_iadd hx hb dL_law_2337 ?_
          refine pv_i (v := 2) (by decide) ?_
          refine va_sld hx hb hX hbl hbA hS (vp_in_iff.mpr ⟨by decide, by decide⟩) dL_law_2338 ?_
          refine pv_i (v := p2) ep2.symm ?_
          refine lv_aload_n hx hb dL_law_2339 rfl (lv_at hl 3 rfl) ?_
          refine lv_iload_n hx hb dL_law_2340 rfl (lv_at hl 0 rfl) ?_
          refine lv_iconst (v := 3) hx hb dL_law_2341 (by decide) ?_
          refine lv_iadd hx hb dL_law_2342 ?_
          refine pv_i (v := 3) (by decide) ?_
          refine va_sld hx hb hX hbl hbA hS (vp_in_iff.mpr ⟨by decide, by decide⟩) dL_law_2343 ?_
          refine pv_i (v := 1) ep3.symm ?_
          refine lv_aload_n hx hb dL_law_2344 rfl (lv_at hl 3 rfl) ?_
          refine lv_iload_n hx hb dL_law_2345 rfl (lv_at hl 0 rfl) ?_
          refine lv_iconst (v := 4) hx hb dL_law_2346 (by decide) ?_
          refine lv_iadd hx hb dL_law_2347 ?_
          refine pv_i (v := 4) (by decide) ?_
          refine va_sld hx hb hX hbl hbA hS (vp_in_iff.mpr ⟨by decide, by decide⟩) dL_law_2348 ?_
          refine pv_i (v := p4) ep4.symm ?_
          refine lv_aload_n hx hb dL_law_2349 rfl (lv_at hl 3 rfl) ?_
          refine lv_iload_n hx hb dL_law_2350 rfl (lv_at hl 0 rfl) ?_
          refine lv_iconst (v := 5) hx hb dL_law_2351 (by decide) ?_
          refine lv_iadd hx hb dL_law_2352 ?_
          refine pv_i (v := 5) (by decide) ?_
          refine va_sld hx hb hX hbl hbA hS (vp_in_iff.mpr ⟨by decide, by decide⟩) dL_law_2353 ?_
          refine pv_i (v := p5) ep5.symm ?_
          refine cvM (n := 5) (As := [.int 1, .int p2, .int 1, .int p4, .int p5]) (rest := [.int (-6)]) (wr := [((A 0), .inr (9, [.ref (A 1), .ref (A 3), .ref (A 12), .ref (A 21), .int 0, .ref (A 49), .ref (A 51), .ref (A 60), .ref (A 61), .ref (A 62), .ref (A 63), .ref (A 64)])), ((A 51), .inl (cR, 4, .inr (.inr (.inr (.inr (va_up (va_up (va_up (va_up (fun _ => none) 0 (some (A 52))) 1 (some (A 54))) 2 (some (A 56))) 3 (some (A 58)))))))), ((A 52), .inr (3, [.int (-1), .int 0, .ref (A 53)])), ((A 54), .inr (3, [.int (-1), .int 0, .ref (A 55)])), ((A 56), .inr (3, [.int (-1), .int 0, .ref (A 57)])), ((A 58), .inr (3, [.int (-1), .int 0, .ref (A 59)]))]) ⟨hx, hb, hml, hown, hts⟩ (fun _ h => uw_in h) (kX10_paste_5 l D cB cI cJ cZ cT cR (B 0) (B 1) (B 2) (B 3) (B 4) (B 5) (B 6) (B 7) (B 8) (B 9) (B 10) (B 11) (B 12) (B 13) (B 14) (B 15) (B 16) (B 17) (B 18) p2 p4 p5 H.size) q_m1334 q_n1335 q_e1336 q_i11 q_c1337 (by decide +kernel) ⟨(Nat.le_of_ble_eq_true rfl), (Nat.le_of_ble_eq_true rfl)⟩ ⟨(Nat.le_of_ble_eq_true rfl), (Nat.le_of_ble_eq_true rfl)⟩ hE hK hP hD hS hA [6, 7] [0, 1, 2, 3, 4, 5] rfl rfl rfl rfl (by decide) 10 0 rfl rfl rfl hl.1 rfl (Nat.le_of_ble_eq_true rfl) dL_law_2354 (fun r9 u H locs hpo hP hD hS => ?_)
          have hP : va_P D vwCl [((A 0), .inr (9, [.ref (A 1), .ref (A 3), .ref (A 12), .ref (A 21), .int 0, .ref (A 49), .ref (A 51), .ref (A 60), .ref (A 61), .ref (A 62), .ref (A 63), .ref (A 64)])), ((A 51), .inl (cR, 4, .inr (.inr (.inr (.inr (va_up (va_up (va_up (va_up (fun _ => none) 0 (some (A 52))) 1 (some (A 54))) 2 (some (A 56))) 3 (some (A 58)))))))), ((A 52), .inr (3, [.int (-1), .int 0, .ref (A 53)])), ((A 54), .inr (3, [.int (-1), .int 0, .ref (A 55)])), ((A 56), .inr (3, [.int (-1), .int 0, .ref (A 57)])), ((A 58), .inr (3, [.int (-1), .int 0, .ref (A 59)])), ((B 0), .inr (10, [.int 0, .ref (B 1), .ref (B 2), .ref (B 3), .ref (B 4), .ref (B 5), .int 0, .int 0, .int 0, .int 0, .int 0, .long 0, .int 0, .int 0, .int 0, .int (-1), .ref (B 6), .ref (B 7), .ref (B 8), .ref (B 9), .ref (B 10), .ref (B 11), .ref (B 12), .ref (B 13), .int 0, .int 0, .ref (B 14), .ref (B 15), .int 0, .int 0, .int 0, .ref (B 16), .ref (B 17), .int 0, .int 0, .int 0, .int 0, .int 0, .ref (B 18), .int 0, .int 0, .int 0])), ((B 1), .inl (cI, 4, .inl (fun _ => (-1))))] H := hP
          have hD : va_D (fun q : Nat => s.heap.size ≤ q) [((A 0), .inr (9, [.ref (A 1), .ref (A 3), .ref (A 12), .ref (A 21), .int 0, .ref (A 49), .ref (A 51), .ref (A 60), .ref (A 61), .ref (A 62), .ref (A 63), .ref (A 64)])), ((A 51), .inl (cR, 4, .inr (.inr (.inr (.inr (va_up (va_up (va_up (va_up (fun _ => none) 0 (some (A 52))) 1 (some (A 54))) 2 (some (A 56))) 3 (some (A 58)))))))), ((A 52), .inr (3, [.int (-1), .int 0, .ref (A 53)])), ((A 54), .inr (3, [.int (-1), .int 0, .ref (A 55)])), ((A 56), .inr (3, [.int (-1), .int 0, .ref (A 57)])), ((A 58), .inr (3, [.int (-1), .int 0, .ref (A 59)])), ((B 0), .inr (10, [.int 0, .ref (B 1), .ref (B 2), .ref (B 3), .ref (B 4), .ref (B 5), .int 0, .int 0, .int 0, .int 0, .int 0, .long 0, .int 0, .int 0, .int 0, .int (-1), .ref (B 6), .ref (B 7), .ref (B 8), .ref (B 9), .ref (B 10), .ref (B 11), .ref (B 12), .ref (B 13), .int 0, .int 0, .ref (B 14), .ref (B 15), .int 0, .int 0, .int 0, .ref (B 16), .ref (B 17), .int 0, .int 0, .int 0, .int 0, .int 0, .ref (B 18), .int 0, .int 0, .int 0])), ((B 1), .inl (cI, 4, .inl (fun _ => (-1))))] := hD
          refine W.cs (cells' := 180) (slots' := 4779) rfl rfl ?_
          refine pv_i (v := (-6)) hpo ?_
          refine lv_icmp_eq (tgt := 2362) hx hb dL_law_2357 (by decide) (fun _ => ?_) (fun c9 => absurd (by decide) c9)
          exact law_end C0 hS (Nat.le_of_ble_eq_true rfl) (Nat.le_of_ble_eq_true rfl) ls hl
        · subst e9
          refine cvR (n := 5) (As := [.int 1, .int p2, .int 2, .int p4, .int p5]) (rest := []) ⟨hx, hb, hml, hown, hts⟩ (fun _ h => uw_in h) (kX9_paste_6 l D cB cI cJ cZ cT cR (A 0) (A 51) (A 54) (A 1) (A 3) (A 12) (A 21) (A 49) (A 60) (A 61) (A 62) (A 63) (A 64) (A 52) (A 56) (A 58) (A 55) p2 p4 p5) q_m1173 q_n1174 q_e1175 q_i1 q_c1176 (by decide +kernel) ⟨(Nat.le_of_ble_eq_true rfl), (Nat.le_of_ble_eq_true rfl)⟩ ⟨(Nat.le_of_ble_eq_true rfl), (Nat.le_of_ble_eq_true rfl)⟩ hK (hP.sub (ws' := [((A 0), .inr (9, [.ref (A 1), .ref (A 3), .ref (A 12), .ref (A 21), .int 0, .ref (A 49), .ref (A 51), .ref (A 60), .ref (A 61), .ref (A 62), .ref (A 63), .ref (A 64)])), ((A 51), .inl (cR, 4, .inr (.inr (.inr (.inr (va_up (va_up (va_up (va_up (fun _ => none) 0 (some (A 52))) 1 (some (A 54))) 2 (some (A 56))) 3 (some (A 58)))))))), ((A 54), .inr (3, [.int (-1), .int 0, .ref (A 55)]))]) [0, 1, 3] rfl) 9 0 rfl rfl rfl hl.1 rfl (Nat.le_of_ble_eq_true rfl) dL_law_2325 ?_
          refine lv_aload_n hx hb dL_law_2328 rfl (lv_at hl 1 rfl) ?_
          refine lv_aload_n hx hb dL_law_2329 rfl (lv_at hl 3 rfl) ?_
          refine lv_iload_n hx hb dL_law_2330 rfl (lv_at hl 0 rfl) ?_
          refine lv_iconst (v := 1) hx hb dL_law_2331 (by decide) ?_
          refine lv_iadd hx hb dL_law_2332 ?_
          refine pv_i (v := 1) (by decide) ?_
          refine va_sld hx hb hX hbl hbA hS (vp_in_iff.mpr ⟨by decide, by decide⟩) dL_law_2333 ?_
          refine pv_i (v := 1) ep1.symm ?_
          refine lv_aload_n hx hb dL_law_2334 rfl (lv_at hl 3 rfl) ?_
          refine lv_iload_n hx hb dL_law_2335 rfl (lv_at hl 0 rfl) ?_
          refine lv_iconst (v := 2) hx hb dL_law_2336 (by decide) ?_
          refine lv_iadd hx hb dL_law_2337 ?_
          refine pv_i (v := 2) (by decide) ?_
          refine va_sld hx hb hX hbl hbA hS (vp_in_iff.mpr ⟨by decide, by decide⟩) dL_law_2338 ?_
          refine pv_i (v := p2) ep2.symm ?_
          refine lv_aload_n hx hb dL_law_2339 rfl (lv_at hl 3 rfl) ?_
          refine lv_iload_n hx hb dL_law_2340 rfl (lv_at hl 0 rfl) ?_
          refine lv_iconst (v := 3) hx hb dL_law_2341 (by decide) ?_
          refine lv_iadd hx hb dL_law_2342 ?_
          refine pv_i (v := 3) (by decide) ?_
          refine va_sld hx hb hX hbl hbA hS (vp_in_iff.mpr ⟨by decide, by decide⟩) dL_law_2343 ?_
          refine pv_i (v := 2) ep3.symm ?_
          refine lv_aload_n hx hb dL_law_2344 rfl (lv_at hl 3 rfl) ?_
          refine lv_iload_n hx hb dL_law_2345 rfl (lv_at hl 0 rfl) ?_
          refine lv_iconst (v := 4) hx hb dL_law_2346 (by decide) ?_
          refine lv_iadd hx hb dL_law_2347 ?_
          refine pv_i (v := 4) (by decide) ?_
          refine va_sld hx hb hX hbl hbA hS (vp_in_iff.mpr ⟨by decide, by decide⟩) dL_law_2348 ?_
          refine pv_i (v := p4) ep4.symm ?_
          refine lv_aload_n hx hb dL_law_2349 rfl (lv_at hl 3 rfl) ?_
          refine lv_iload_n hx hb dL_law_2350 rfl (lv_at hl 0 rfl) ?_
          refine lv_iconst (v := 5) hx hb dL_law_2351 (by decide) ?_
          refine lv_iadd hx hb dL_law_2352 ?_
          refine pv_i (v := 5) (by decide) ?_
          refine va_sld hx hb hX hbl hbA hS (vp_in_iff.mpr ⟨by decide, by decide⟩) dL_law_2353 ?_
          refine pv_i (v := p5) ep5.symm ?_
          refine cvM (n := 5) (As := [.int 1, .int p2, .int 2, .int p4, .int p5]) (rest := [.int (-6)]) (wr := [((A 0), .inr (9, [.ref (A 1), .ref (A 3), .ref (A 12), .ref (A 21), .int 0, .ref (A 49), .ref (A 51), .ref (A 60), .ref (A 61), .ref (A 62), .ref (A 63), .ref (A 64)])), ((A 51), .inl (cR, 4, .inr (.inr (.inr (.inr (va_up (va_up (va_up (va_up (fun _ => none) 0 (some (A 52))) 1 (some (A 54))) 2 (some (A 56))) 3 (some (A 58)))))))), ((A 52), .inr (3, [.int (-1), .int 0, .ref (A 53)])), ((A 54), .inr (3, [.int (-1), .int 0, .ref (A 55)])), ((A 56), .inr (3, [.int (-1), .int 0, .ref (A 57)])), ((A 58), .inr (3, [.int (-1), .int 0, .ref (A 59)]))]) ⟨hx, hb, hml, hown, hts⟩ (fun _ h => uw_in h) (kX10_paste_6 l D cB cI cJ cZ cT cR (B 0) (B 1) (B 2) (B 3) (B 4) (B 5) (B 6) (B 7) (B 8) (B 9) (B 10) (B 11) (B 12) (B 13) (B 14) (B 15) (B 16) (B 17) (B 18) p2 p4 p5 H.size) q_m1334 q_n1335 q_e1336 q_i11 q_c1337 (by decide +kernel) ⟨(Nat.le_of_ble_eq_true rfl), (Nat.le_of_ble_eq_true rfl)⟩ ⟨(Nat.le_of_ble_eq_true rfl), (Nat.le_of_ble_eq_true rfl)⟩ hE hK hP hD hS hA [6, 7] [0, 1, 2, 3, 4, 5] rfl rfl rfl rfl (by decide) 10 0 rfl rfl rfl hl.1 rfl (Nat.le_of_ble_eq_true rfl) dL_law_2354 (fun r9 u H locs hpo hP hD hS => ?_)
          have hP : va_P D vwCl [((A 0), .inr (9, [.ref (A 1), .ref (A 3), .ref (A 12), .ref (A 21), .int 0, .ref (A 49), .ref (A 51), .ref (A 60), .ref (A 61), .ref (A 62), .ref (A 63), .ref (A 64)])), ((A 51), .inl (cR, 4, .inr (.inr (.inr (.inr (va_up (va_up (va_up (va_up (fun _ => none) 0 (some (A 52))) 1 (some (A 54))) 2 (some (A 56))) 3 (some (A 58)))))))), ((A 52), .inr (3, [.int (-1), .int 0, .ref (A 53)])), ((A 54), .inr (3, [.int (-1), .int 0, .ref (A 55)])), ((A 56), .inr (3, [.int (-1), .int 0, .ref (A 57)])), ((A 58), .inr (3, [.int (-1), .int 0, .ref (A 59)])), ((B 0), .inr (10, [.int 0, .ref (B 1), .ref (B 2), .ref (B 3), .ref (B 4), .ref (B 5), .int 0, .int 0, .int 0, .int 0, .int 0, .long 0, .int 0, .int 0, .int 0, .int (-1), .ref (B 6), .ref (B 7), .ref (B 8), .ref (B 9), .ref (B 10), .ref (B 11), .ref (B 12), .ref (B 13), .int 0, .int 0, .ref (B 14), .ref (B 15), .int 0, .int 0, .int 0, .ref (B 16), .ref (B 17), .int 0, .int 0, .int 0, .int 0, .int 0, .ref (B 18), .int 0, .int 0, .int 0])), ((B 1), .inl (cI, 4, .inl (fun _ => (-1))))] H := hP
          have hD : va_D (fun q : Nat => s.heap.size ≤ q) [((A 0), .inr (9, [.ref (A 1), .ref (A 3), .ref (A 12), .ref (A 21), .int 0, .ref (A 49), .ref (A 51), .ref (A 60), .ref (A 61), .ref (A 62), .ref (A 63), .ref (A 64)])), ((A 51), .inl (cR, 4, .inr (.inr (.inr (.inr (va_up (va_up (va_up (va_up (fun _ => none) 0 (some (A 52))) 1 (some (A 54))) 2 (some (A 56))) 3 (some (A 58)))))))), ((A 52), .inr (3, [.int (-1), .int 0, .ref (A 53)])), ((A 54), .inr (3, [.int (-1), .int 0, .ref (A 55)])), ((A 56), .inr (3, [.int (-1), .int 0, .ref (A 57)])), ((A 58), .inr (3, [.int (-1), .int 0, .ref (A 59)])), ((B 0), .inr (10, [.int 0, .ref (B 1), .ref (B 2), .ref (B 3), .ref (B 4), .ref (B 5), .int 0, .int 0, .int 0, .int 0, .int 0, .long 0, .int 0, .int 0, .int 0, .int (-1), .ref (B 6), .ref (B 7), .ref (B 8), .ref (B 9), .ref (B 10), .ref (B 11), .ref (B 12), .ref (B 13), .int 0, .int 0, .ref (B 14), .ref (B 15), .int 0, .int 0, .int 0, .ref (B 16), .ref (B 17), .int 0, .int 0, .int 0, .int 0, .int 0, .ref (B 18), .int 0, .int 0, .int 0])), ((B 1), .inl (cI, 4, .inl (fun _ => (-1))))] := hD
          refine W.cs (cells' := 180) (slots' := 4779) rfl rfl ?_
          refine pv_i (v := (-6)) hpo ?_
          refine lv_icmp_eq (tgt := 2362) hx hb dL_law_2357 (by decide) (fun _ => ?_) (fun c9 => absurd (by decide) c9)
          exact law_end C0 hS (Nat.le_of_ble_eq_true rfl) (Nat.le_of_ble_eq_true rfl) ls hl
        · subst e9
          refine cvR (n := 5) (As := [.int 1, .int p2, .int 3, .int p4, .int p5]) (rest := []) ⟨hx, hb, hml, hown, hts⟩ (fun _ h => uw_in h) (kX9_paste_7 l D cB cI cJ cZ cT cR (A 0) (A 51) (A 54) (A 1) (A 3) (A 12) (A 21) (A 49) (A 60) (A 61) (A 62) (A 63) (A 64) (A 52) (A 56) (A 58) (A 55) p2 p4 p5) q_m1173 q_n1174 q_e1175 q_i1 q_c1176 (by decide +kernel) ⟨(Nat.le_of_ble_eq_true rfl), (Nat.le_of_ble_eq_true rfl)⟩ ⟨(Nat.le_of_ble_eq_true rfl), (Nat.le_of_ble_eq_true rfl)⟩ hK (hP.sub (ws' := [((A 0), .inr (9, [.ref (A 1), .ref (A 3), .ref (A 12), .ref (A 21), .int 0, .ref (A 49), .ref (A 51), .ref (A 60), .ref (A 61), .ref (A 62), .ref (A 63), .ref (A 64)])), ((A 51), .inl (cR, 4, .inr (.inr (.inr (.inr (va_up (va_up (va_up (va_up (fun _ => none) 0 (some (A 52))) 1 (some (A 54))) 2 (some (A 56))) 3 (some (A 58)))))))), ((A 54), .inr (3, [.int (-1), .int 0, .ref (A 55)]))]) [0, 1, 3] rfl) 9 0 rfl rfl rfl hl.1 rfl (Nat.le_of_ble_eq_true rfl) dL_law_2325 ?_
          refine lv_aload_n hx hb dL_law_2328 rfl (lv_at hl 1 rfl) ?_
          refine lv_aload_n hx hb dL_law_2329 rfl (lv_at hl 3 rfl) ?_
          refine lv_iload_n hx hb dL_law_2330 rfl (lv_at hl 0 rfl) ?_
          refine lv_iconst (v := 1) hx hb dL_law_2331 (by decide) ?_
          refine lv_iadd hx hb dL_law_2332 ?_
          refine pv_i (v := 1) (by decide) ?_
          refine va_sld hx hb hX hbl hbA hS (vp_in_iff.mpr ⟨by decide, by decide⟩) dL_law_2333 ?_
          refine pv_i (v := 1) ep1.symm ?_
          refine lv_aload_n hx hb dL_law_2334 rfl (lv_at hl 3 rfl) ?_
          refine lv_iload_n hx hb dL_law_2335 rfl (lv_at hl 0 rfl) ?_
          refine lv_iconst (v := 2) hx hb dL_law_2336 (by decide) ?_
          refine lv_iadd hx hb dL_law_2337 ?_
          refine pv_i (v := 2) (by decide) ?_
          refine va_sld hx hb hX hbl hbA hS (vp_in_iff.mpr ⟨by decide, by decide⟩) dL_law_2338 ?_
          refine pv_i (v := p2) ep2.symm ?_
          refine lv_aload_n hx hb dL_law_2339 rfl (lv_at hl 3 rfl) ?_
          refine lv_iload_n hx hb dL_law_2340 rfl (lv_at hl 0 rfl) ?_
          refine lv_iconst (v := 3) hx hb dL_law_2341 (by decide) ?_
          refine lv_iadd hx hb dL_law_2342 ?_
          refine pv_i (v := 3) (by decide) ?_
          refine va_sld hx hb hX hbl hbA hS (vp_in_iff.mpr ⟨by decide, by decide⟩) dL_law_2343 ?_
          refine pv_i (v := 3) ep3.symm ?_
          refine lv_aload_n hx hb dL_law_2344 rfl (lv_at hl 3 rfl) ?_
          refine lv_iload_n hx hb dL_law_2345 rfl (lv_at hl 0 rfl) ?_
          refine lv_iconst (v := 4) hx hb dL_law_2346 (by decide) ?_
          refine lv_iadd hx hb dL_law_2347 ?_
          refine pv_i (v := 4) (by decide) ?_
          refine va_sld hx hb hX hbl hbA hS (vp_in_iff.mpr ⟨by decide, by decide⟩) dL_law_2348 ?_
          refine pv_i (v := p4) ep4.symm ?_
          refine lv_aload_n hx hb dL_law_2349 rfl (lv_at hl 3 rfl) ?_
          refine lv_iload_n hx hb dL_law_2350 rfl (lv_at hl 0 rfl) ?_
          refine lv_iconst (v := 5) hx hb dL_law_2351 (by decide) ?_
          refine lv_iadd hx hb dL_law_2352 ?_
          refine pv_i (v := 5) (by decide) ?_
          refine va_sld hx hb hX hbl hbA hS (vp_in_iff.mpr ⟨by decide, by decide⟩) dL_law_2353 ?_
          refine pv_i (v := p5) ep5.symm ?_
          refine cvM (n := 5) (As := [.int 1, .int p2, .int 3, .int p4, .int p5]) (rest := [.int (-6)]) (wr := [((A 0), .inr (9, [.ref (A 1), .ref (A 3), .ref (A 12), .ref (A 21), .int 0, .ref (A 49), .ref (A 51), .ref (A 60), .ref (A 61), .ref (A 62), .ref (A 63), .ref (A 64)])), ((A 51), .inl (cR, 4, .inr (.inr (.inr (.inr (va_up (va_up (va_up (va_up (fun _ => none) 0 (some (A 52))) 1 (some (A 54))) 2 (some (A 56))) 3 (some (A 58)))))))), ((A 52), .inr (3, [.int (-1), .int 0, .ref (A 53)])), ((A 54), .inr (3, [.int (-1), .int 0, .ref (A 55)])), ((A 56), .inr (3, [.int (-1), .int 0, .ref (A 57)])), ((A 58), .inr (3, [.int (-1), .int 0, .ref (A 59)]))]) ⟨hx, hb, hml, hown, hts⟩ (fun _ h => uw_in h) (kX10_paste_7 l D cB cI cJ cZ cT cR (B 0) (B 1) (B 2) (B 3) (B 4) (B 5) (B 6) (B 7) (B 8) (B 9) (B 10) (B 11) (B 12) (B 13) (B 14) (B 15) (B 16) (B 17) (B 18) p2 p4 p5 H.size) q_m1334 q_n1335 q_e1336 q_i11 q_c1337 (by decide +kernel) ⟨(Nat.le_of_ble_eq_true rfl), (Nat.le_of_ble_eq_true rfl)⟩ ⟨(Nat.le_of_ble_eq_true rfl), (Nat.le_of_ble_eq_true rfl)⟩ hE hK hP hD hS hA [6, 7] [0, 1, 2, 3, 4, 5] rfl rfl rfl rfl (by decide) 10 0 rfl rfl rfl hl.1 rfl (Nat.le_of_ble_eq_true rfl) dL_law_2354 (fun r9 u H locs hpo hP hD hS => ?_)
          have hP : va_P D vwCl [((A 0), .inr (9, [.ref (A 1), .ref (A 3), .ref (A 12), .ref (A 21), .int 0, .ref (A 49), .ref (A 51), .ref (A 60), .ref (A 61), .ref (A 62), .ref (A 63), .ref (A 64)])), ((A 51), .inl (cR, 4, .inr (.inr (.inr (.inr (va_up (va_up (va_up (va_up (fun _ => none) 0 (some (A 52))) 1 (some (A 54))) 2 (some (A 56))) 3 (some (A 58)))))))), ((A 52), .inr (3, [.int (-1), .int 0, .ref (A 53)])), ((A 54), .inr (3, [.int (-1), .int 0, .ref (A 55)])), ((A 56), .inr (3, [.int (-1), .int 0, .ref (A 57)])), ((A 58), .inr (3, [.int (-1), .int 0, .ref (A 59)])), ((B 0), .inr (10, [.int 0, .ref (B 1), .ref (B 2), .ref (B 3), .ref (B 4), .ref (B 5), .int 0, .int 0, .int 0, .int 0, .int 0, .long 0, .int 0, .int 0, .int 0, .int (-1), .ref (B 6), .ref (B 7), .ref (B 8), .ref (B 9), .ref (B 10), .ref (B 11), .ref (B 12), .ref (B 13), .int 0, .int 0, .ref (B 14), .ref (B 15), .int 0, .int 0, .int 0, .ref (B 16), .ref (B 17), .int 0, .int 0, .int 0, .int 0, .int 0, .ref (B 18), .int 0, .int 0, .int 0])), ((B 1), .inl (cI, 4, .inl (fun _ => (-1))))] H := hP
          have hD : va_D (fun q : Nat => s.heap.size ≤ q) [((A 0), .inr (9, [.ref (A 1), .ref (A 3), .ref (A 12), .ref (A 21), .int 0, .ref (A 49), .ref (A 51), .ref (A 60), .ref (A 61), .ref (A 62), .ref (A 63), .ref (A 64)])), ((A 51), .inl (cR, 4, .inr (.inr (.inr (.inr (va_up (va_up (va_up (va_up (fun _ => none) 0 (some (A 52))) 1 (some (A 54))) 2 (some (A 56))) 3 (some (A 58)))))))), ((A 52), .inr (3, [.int (-1), .int 0, .ref (A 53)])), ((A 54), .inr (3, [.int (-1), .int 0, .ref (A 55)])), ((A 56), .inr (3, [.int (-1), .int 0, .ref (A 57)])), ((A 58), .inr (3, [.int (-1), .int 0, .ref (A 59)])), ((B 0), .inr (10, [.int 0, .ref (B 1), .ref (B 2), .ref (B 3), .ref (B 4), .ref (B 5), .int 0, .int 0, .int 0, .int 0, .int 0, .long 0, .int 0, .int 0, .int 0, .int (-1), .ref (B 6), .ref (B 7), .ref (B 8), .ref (B 9), .ref (B 10), .ref (B 11), .ref (B 12), .ref (B 13), .int 0, .int 0, .ref (B 14), .ref (B 15), .int 0, .int 0, .int 0, .ref (B 16), .ref (B 17), .int 0, .int 0, .int 0, .int 0, .int 0, .ref (B 18), .int 0, .int 0, .int 0])), ((B 1), .inl (cI, 4, .inl (fun _ => (-1))))] := hD
          refine W.cs (cells' := 180) (slots' := 4779) rfl rfl ?_
          refine pv_i (v := (-6)) hpo ?_
          refine lv_icmp_eq (tgt := 2362) hx hb dL_law_2357 (by decide) (fun _ => ?_) (fun c9 => absurd (by decide) c9)
          exact law_end C0 hS (Nat.le_of_ble_eq_true rfl) (Nat.le_of_ble_eq_true rfl) ls hl
      · subst e9
        rcases case4 hc2 with e9 | e9 | e9 | e9
        · subst e9
          refine cvR (n := 5) (As := [.int 2, .int p2, .int 0, .int p4, .int p5]) (rest := []) ⟨hx, hb, hml, hown, hts⟩ (fun _ h => uw_in h) (kX9_paste_8 l D cB cI cJ cZ cT cR (A 0) (A 51) (A 56) (A 1) (A 3) (A 12) (A 21) (A 49) (A 60) (A 61) (A 62) (A 63) (A 64) (A 52) (A 54) (A 58) (A 57) p2 p4 p5) q_m1173 q_n1174 q_e1175 q_i1 q_c1176 (by decide +kernel) ⟨(Nat.le_of_ble_eq_true rfl), (Nat.le_of_ble_eq_true rfl)⟩ ⟨(Nat.le_of_ble_eq_true rfl), (Nat.le_of_ble_eq_true rfl)⟩ hK (hP.sub (ws' := [((A 0), .inr (9, [.ref (A 1), .ref (A 3), .ref (A 12), .ref (A 21), .int 0, .ref (A 49), .ref (A 51), .ref (A 60), .ref (A 61), .ref (A 62), .ref (A 63), .ref (A 64)])), ((A 51), .inl (cR, 4, .inr (.inr (.inr (.inr (va_up (va_up (va_up (va_up (fun _ => none) 0 (some (A 52))) 1 (some (A 54))) 2 (some (A 56))) 3 (some (A 58)))))))), ((A 56), .inr (3, [.int (-1), .int 0, .ref (A 57)]))]) [0, 1, 4] rfl) 9 0 rfl rfl rfl hl.1 rfl (Nat.le_of_ble_eq_true rfl) dL_law_2325 ?_
          refine lv_aload_n hx hb dL_law_2328 rfl (lv_at hl 1 rfl) ?_
          refine lv_aload_n hx hb dL_law_2329 rfl (lv_at hl 3 rfl) ?_
          refine lv_iload_n hx hb dL_law_2330 rfl (lv_at hl 0 rfl) ?_
          refine lv_iconst (v := 1) hx hb dL_law_2331 (by decide) ?_
          refine lv_iadd hx hb dL_law_2332 ?_
          refine pv_i (v := 1) (by decide) ?_
          refine va_sld hx hb hX hbl hbA hS (vp_in_iff.mpr ⟨by decide, by decide⟩) dL_law_2333 ?_
          refine pv_i (v := 2) ep1.symm ?_
          refine lv_aload_n hx hb dL_law_2334 rfl (lv_at hl 3 rfl) ?_
          refine lv_iload_n hx hb dL_law_2335 rfl (lv_at hl 0 rfl) ?_
          refine lv_iconst (v := 2) hx hb dL_law_2336 (by decide) ?_
          refine lv_iadd hx hb dL_law_2337 ?_
          refine pv_i (v := 2) (by decide) ?_
          refine va_sld hx hb hX hbl hbA hS (vp_in_iff.mpr ⟨by decide, by decide⟩) dL_law_2338 ?_
          refine pv_i (v := p2) ep2.symm ?_
          refine lv_aload_n hx hb dL_law_2339 rfl (lv_at hl 3 rfl) ?_
          refine lv_iload_n hx hb dL_law_2340 rfl (lv_at hl 0 rfl) ?_
          refine lv_iconst (v := 3) hx hb dL_law_2341 (by decide) ?_
          refine lv_iadd hx hb dL_law_2342 ?_
          refine pv_i (v := 3) (by decide) ?_
          refine va_sld hx hb hX hbl hbA hS (vp_in_iff.mpr ⟨by decide, by decide⟩) dL_law_2343 ?_
          refine pv_i (v := 0) ep3.symm ?_
          refine lv_aload_n hx hb dL_law_2344 rfl (lv_at hl 3 rfl) ?_
          refine lv_iload_n hx hb dL_law_2345 rfl (lv_at hl 0 rfl) ?_
          refine lv_iconst (v := 4) hx hb dL_law_2346 (by decide) ?_
          refine lv_iadd hx hb dL_law_2347 ?_
          refine pv_i (v := 4) (by decide) ?_
          refine va_sld hx hb hX hbl hbA hS (vp_in_iff.mpr ⟨by decide, by decide⟩) dL_law_2348 ?_
          refine pv_i (v := p4) ep4.symm ?_
          refine lv_aload_n hx hb dL_law_2349 rfl (lv_at hl 3 rfl) ?_
          refine lv_iload_n hx hb dL_law_2350 rfl (lv_at hl 0 rfl) ?_
          refine lv_iconst (v := 5) hx hb dL_law_2351 (by decide) ?_
          refine lv_iadd hx hb dL_law_2352 ?_
          refine pv_i (v := 5) (by decide) ?_
          refine va_sld hx hb hX hbl hbA hS (vp_in_iff.mpr ⟨by decide, by decide⟩) dL_law_2353 ?_
          refine pv_i (v := p5) ep5.symm ?_
          refine cvM (n := 5) (As := [.int 2, .int p2, .int 0, .int p4, .int p5]) (rest := [.int (-6)]) (wr := [((A 0), .inr (9, [.ref (A 1), .ref (A 3), .ref (A 12), .ref (A 21), .int 0, .ref (A 49), .ref (A 51), .ref (A 60), .ref (A 61), .ref (A 62), .ref (A 63), .ref (A 64)])), ((A 51), .inl (cR, 4, .inr (.inr (.inr (.inr (va_up (va_up (va_up (va_up (fun _ => none) 0 (some (A 52))) 1 (some (A 54))) 2 (some (A 56))) 3 (some (A 58)))))))), ((A 52), .inr (3, [.int (-1), .int 0, .ref (A 53)])), ((A 54), .inr (3, [.int (-1), .int 0, .ref (A 55)])), ((A 56), .inr (3, [.int (-1), .int 0, .ref (A 57)])), ((A 58), .inr (3, [.int (-1), .int 0, .ref (A 59)]))]) ⟨hx, hb, hml, hown, hts⟩ (fun _ h => uw_in h) (kX10_paste_8 l D cB cI cJ cZ cT cR (B 0) (B 1) (B 2) (B 3) (B 4) (B 5) (B 6) (B 7) (B 8) (B 9) (B 10) (B 11) (B 12) (B 13) (B 14) (B 15) (B 16) (B 17) (B 18) p2 p4 p5 H.size) q_m1334 q_n1335 q_e1336 q_i11 q_c1337 (by decide +kernel) ⟨(Nat.le_of_ble_eq_true rfl), (Nat.le_of_ble_eq_true rfl)⟩ ⟨(Nat.le_of_ble_eq_true rfl), (Nat.le_of_ble_eq_true rfl)⟩ hE hK hP hD hS hA [6, 7] [0, 1, 2, 3, 4, 5] rfl rfl rfl rfl (by decide) 10 0 rfl rfl rfl hl.1 rfl (Nat.le_of_ble_eq_true rfl) dL_law_2354 (fun r9 u H locs hpo hP hD hS => ?_)
          have hP : va_P D vwCl [((A 0), .inr (9, [.ref (A 1), .ref (A 3), .ref (A 12), .ref (A 21), .int 0, .ref (A 49), .ref (A 51), .ref (A 60), .ref (A 61), .ref (A 62), .ref (A 63), .ref (A 64)])), ((A 51), .inl (cR, 4, .inr (.inr (.inr (.inr (va_up (va_up (va_up (va_up (fun _ => none) 0 (some (A 52))) 1 (some (A 54))) 2 (some (A 56))) 3 (some (A 58)))))))), ((A 52), .inr (3, [.int (-1), .int 0, .ref (A 53)])), ((A 54), .inr (3, [.int (-1), .int 0, .ref (A 55)])), ((A 56), .inr (3, [.int (-1), .int 0, .ref (A 57)])), ((A 58), .inr (3, [.int (-1), .int 0, .ref (A 59)])), ((B 0), .inr (10, [.int 0, .ref (B 1), .ref (B 2), .ref (B 3), .ref (B 4), .ref (B 5), .int 0, .int 0, .int 0, .int 0, .int 0, .long 0, .int 0, .int 0, .int 0, .int (-1), .ref (B 6), .ref (B 7), .ref (B 8), .ref (B 9), .ref (B 10), .ref (B 11), .ref (B 12), .ref (B 13), .int 0, .int 0, .ref (B 14), .ref (B 15), .int 0, .int 0, .int 0, .ref (B 16), .ref (B 17), .int 0, .int 0, .int 0, .int 0, .int 0, .ref (B 18), .int 0, .int 0, .int 0])), ((B 1), .inl (cI, 4, .inl (fun _ => (-1))))] H := hP
          have hD : va_D (fun q : Nat => s.heap.size ≤ q) [((A 0), .inr (9, [.ref (A 1), .ref (A 3), .ref (A 12), .ref (A 21), .int 0, .ref (A 49), .ref (A 51), .ref (A 60), .ref (A 61), .ref (A 62), .ref (A 63), .ref (A 64)])), ((A 51), .inl (cR, 4, .inr (.inr (.inr (.inr (va_up (va_up (va_up (va_up (fun _ => none) 0 (some (A 52))) 1 (some (A 54))) 2 (some (A 56))) 3 (some (A 58)))))))), ((A 52), .inr (3, [.int (-1), .int 0, .ref (A 53)])), ((A 54), .inr (3, [.int (-1), .int 0, .ref (A 55)])), ((A 56), .inr (3, [.int (-1), .int 0, .ref (A 57)])), ((A 58), .inr (3, [.int (-1), .int 0, .ref (A 59)])), ((B 0), .inr (10, [.int 0, .ref (B 1), .ref (B 2), .ref (B 3), .ref (B 4), .ref (B 5), .int 0, .int 0, .int 0, .int 0, .int 0, .long 0, .int 0, .int 0, .int 0, .int (-1), .ref (B 6), .ref (B 7), .ref (B 8), .ref (B 9), .ref (B 10), .ref (B 11), .ref (B 12), .ref (B 13), .int 0, .int 0, .ref (B 14), .ref (B 15), .int 0, .int 0, .int 0, .ref (B 16), .ref (B 17), .int 0, .int 0, .int 0, .int 0, .int 0, .ref (B 18), .int 0, .int 0, .int 0])), ((B 1), .inl (cI, 4, .inl (fun _ => (-1))))] := hD
          refine W.cs (cells' := 180) (slots' := 4779) rfl rfl ?_
          refine pv_i (v := (-6)) hpo ?_
          refine lv_icmp_eq (tgt := 2362) hx hb dL_law_2357 (by decide) (fun _ => ?_) (fun c9 => absurd (by decide) c9)
          exact law_end C0 hS (Nat.le_of_ble_eq_true rfl) (Nat.le_of_ble_eq_true rfl) ls hl
        · subst e9
          refine cvR (n := 5) (As := [.int 2, .int p2, .int 1, .int p4, .int p5]) (rest := []) ⟨hx, hb, hml, hown, hts⟩ (fun _ h => uw_in h) (kX9_paste_9 l D cB cI cJ cZ cT cR (A 0) (A 51) (A 56) (A 1) (A 3) (A 12) (A 21) (A 49) (A 60) (A 61) (A 62) (A 63) (A 64) (A 52) (A 54) (A 58) (A 57) p2 p4 p5) q_m1173 q_n1174 q_e1175 q_i1 q_c1176 (by decide +kernel) ⟨(Nat.le_of_ble_eq_true rfl), (Nat.le_of_ble_eq_true rfl)⟩ ⟨(Nat.le_of_ble_eq_true rfl), (Nat.le_of_ble_eq_true rfl)⟩ hK (hP.sub (ws' := [((A 0), .inr (9, [.ref (A 1), .ref (A 3), .ref (A 12), .ref (A 21), .int 0, .ref (A 49), .ref (A 51), .ref (A 60), .ref (A 61), .ref (A 62), .ref (A 63), .ref (A 64)])), ((A 51), .inl (cR, 4, .inr (.inr (.inr (.inr (va_up (va_up (va_up (va_up (fun _ => none) 0 (some (A 52))) 1 (some (A 54))) 2 (some (A 56))) 3 (some (A 58)))))))), ((A 56), .inr (3, [.int (-1), .int 0, .ref (A 57)]))]) [0, 1, 4] rfl) 9 0 rfl rfl rfl hl.1 rfl (Nat.le_of_ble_eq_true rfl) dL_law_2325 ?_
          refine lv_aload_n hx hb dL_law_2328 rfl (lv_at hl 1 rfl) ?_
          refine lv_aload_n hx hb dL_law_2329 rfl (lv_at hl 3 rfl) ?_
          refine lv_iload_n hx hb dL_law_2330 rfl (lv_at hl 0 rfl) ?_
          refine lv_iconst (v := 1) hx hb dL_law_2331 (by decide) ?_
          refine lv_iadd hx hb dL_law_2332 ?_
          refine pv_i (v := 1) (by decide) ?_
          refine va_sld hx hb hX hbl hbA hS (vp_in_iff.mpr ⟨by decide, by decide⟩) dL_law_2333 ?_
          refine pv_i (v := 2) ep1.symm ?_
          refine lv_aload_n hx hb dL_law_2334 rfl (lv_at hl 3 rfl) ?_
          refine lv_iload_n hx hb dL_law_2335 rfl (lv_at hl 0 rfl) ?_
          refine lv_iconst (v := 2) hx hb dL_law_2336 (by decide) ?_
          refine lv_iadd hx hb dL_law_2337 ?_
          refine pv_i (v := 2) (by decide) ?_
          refine va_sld hx hb hX hbl hbA hS (vp_in_iff.mpr ⟨by decide, by decide⟩) dL_law_2338 ?_
          refine pv_i (v := p2) ep2.symm ?_
          refine lv_aload_n hx hb dL_law_2339 rfl (lv_at hl 3 rfl) ?_
          refine lv_iload_n hx hb dL_law_2340 rfl (lv_at hl 0 rfl) ?_
          refine lv_iconst (v := 3) hx hb dL_law_2341 (by decide) ?_
          refine lv_iadd hx hb dL_law_2342 ?_
          refine pv_i (v := 3) (by decide) ?_
          refine va_sld hx hb hX hbl hbA hS (vp_in_iff.mpr ⟨by decide, by decide⟩) dL_law_2343 ?_
          refine pv_i (v := 1) ep3.symm ?_
          refine lv_aload_n hx hb dL_law_2344 rfl (lv_at hl 3 rfl) ?_
          refine lv_iload_n hx hb dL_law_2345 rfl (lv_at hl 0 rfl) ?_
          refine lv_iconst (v := 4) hx hb dL_law_2346 (by decide) ?_
          refine lv_iadd hx hb dL_law_2347 ?_
          refine pv_i (v := 4) (by decide) ?_
          refine va_sld hx hb hX hbl hbA hS (vp_in_iff.mpr ⟨by decide, by decide⟩) dL_law_2348 ?_
          refine pv_i (v := p4) ep4.symm ?_
          refine lv_aload_n hx hb dL_law_2349 rfl (lv_at hl 3 rfl) ?_
          refine lv_iload_n hx hb dL_law_2350 rfl (lv_at hl 0 rfl) ?_
          refine lv_iconst (v := 5) hx hb dL_law_2351 (by decide) ?_
          refine lv_iadd hx hb dL_law_2352 ?_
          refine pv_i (v := 5) (by decide) ?_
          refine va_sld hx hb hX hbl hbA hS (vp_in_iff.mpr ⟨by decide, by decide⟩) dL_law_2353 ?_
          refine pv_i (v := p5) ep5.symm ?_
          refine cvM (n := 5) (As := [.int 2, .int p2, .int 1, .int p4, .int p5]) (rest := [.int (-6)]) (wr := [((A 0), .inr (9, [.ref (A 1), .ref (A 3), .ref (A 12), .ref (A 21), .int 0, .ref (A 49), .ref (A 51), .ref (A 60), .ref (A 61), .ref (A 62), .ref (A 63), .ref (A 64)])), ((A 51), .inl (cR, 4, .inr (.inr (.inr (.inr (va_up (va_up (va_up (va_up (fun _ => none) 0 (some (A 52))) 1 (some (A 54))) 2 (some (A 56))) 3 (some (A 58)))))))), ((A 52), .inr (3, [.int (-1), .int 0, .ref (A 53)])), ((A 54), .inr (3, [.int (-1), .int 0, .ref (A 55)])), ((A 56), .inr (3, [.int (-1), .int 0, .ref (A 57)])), ((A 58), .inr (3, [.int (-1), .int 0, .ref (A 59)]))]) ⟨hx, hb, hml, hown, hts⟩ (fun _ h => uw_in h) (kX10_paste_9 l D cB cI cJ cZ cT cR (B 0) (B 1) (B 2) (B 3) (B 4) (B 5) (B 6) (B 7) (B 8) (B 9) (B 10) (B 11) (B 12) (B 13) (B 14) (B 15) (B 16) (B 17) (B 18) p2 p4 p5 H.size) q_m1334 q_n1335 q_e1336 q_i11 q_c1337 (by decide +kernel) ⟨(Nat.le_of_ble_eq_true rfl), (Nat.le_of_ble_eq_true rfl)⟩ ⟨(Nat.le_of_ble_eq_true rfl), (Nat.le_of_ble_eq_true rfl)⟩ hE hK hP hD hS hA [6, 7] [0, 1, 2, 3, 4, 5] rfl rfl rfl rfl (by decide) 10 0 rfl rfl rfl hl.1 rfl (Nat.le_of_ble_eq_true rfl) dL_law_2354 (fun r9 u H locs hpo hP hD hS => ?_)
          have hP : va_P D vwCl [((A 0), .inr (9, [.ref (A 1), .ref (A 3), .ref (A 12), .ref (A 21), .int 0, .ref (A 49), .ref (A 51), .ref (A 60), .ref (A 61), .ref (A 62), .ref (A 63), .ref (A 64)])), ((A 51), .inl (cR, 4, .inr (.inr (.inr (.inr (va_up (va_up (va_up (va_up (fun _ => none) 0 (some (A 52))) 1 (some (A 54))) 2 (some (A 56))) 3 (some (A 58)))))))), ((A 52), .inr (3, [.int (-1), .int 0, .ref (A 53)])), ((A 54), .inr (3, [.int (-1), .int 0, .ref (A 55)])), ((A 56), .inr (3, [.int (-1), .int 0, .ref (A 57)])), ((A 58), .inr (3, [.int (-1), .int 0, .ref (A 59)])), ((B 0), .inr (10, [.int 0, .ref (B 1), .ref (B 2), .ref (B 3), .ref (B 4), .ref (B 5), .int 0, .int 0, .int 0, .int 0, .int 0, .long 0, .int 0, .int 0, .int 0, .int (-1), .ref (B 6), .ref (B 7), .ref (B 8), .ref (B 9), .ref (B 10), .ref (B 11), .ref (B 12), .ref (B 13), .int 0, .int 0, .ref (B 14), .ref (B 15), .int 0, .int 0, .int 0, .ref (B 16), .ref (B 17), .int 0, .int 0, .int 0, .int 0, .int 0, .ref (B 18), .int 0, .int 0, .int 0])), ((B 1), .inl (cI, 4, .inl (fun _ => (-1))))] H := hP
          have hD : va_D (fun q : Nat => s.heap.size ≤ q) [((A 0), .inr (9, [.ref (A 1), .ref (A 3), .ref (A 12), .ref (A 21), .int 0, .ref (A 49), .ref (A 51), .ref (A 60), .ref (A 61), .ref (A 62), .ref (A 63), .ref (A 64)])), ((A 51), .inl (cR, 4, .inr (.inr (.inr (.inr (va_up (va_up (va_up (va_up (fun _ => none) 0 (some (A 52))) 1 (some (A 54))) 2 (some (A 56))) 3 (some (A 58)))))))), ((A 52), .inr (3, [.int (-1), .int 0, .ref (A 53)])), ((A 54), .inr (3, [.int (-1), .int 0, .ref (A 55)])), ((A 56), .inr (3, [.int (-1), .int 0, .ref (A 57)])), ((A 58), .inr (3, [.int (-1), .int 0, .ref (A 59)])), ((B 0), .inr (10, [.int 0, .ref (B 1), .ref (B 2), .ref (B 3), .ref (B 4), .ref (B 5), .int 0, .int 0, .int 0, .int 0, .int 0, .long 0, .int 0, .int 0, .int 0, .int (-1), .ref (B 6), .ref (B 7), .ref (B 8), .ref (B 9), .ref (B 10), .ref (B 11), .ref (B 12), .ref (B 13), .int 0, .int 0, .ref (B 14), .ref (B 15), .int 0, .int 0, .int 0, .ref (B 16), .ref (B 17), .int 0, .int 0, .int 0, .int 0, .int 0, .ref (B 18), .int 0, .int 0, .int 0])), ((B 1), .inl (cI, 4, .inl (fun _ => (-1))))] := hD
          refine W.cs (cells' := 180) (slots' := 4779) rfl rfl ?_
          refine pv_i (v := (-6)) hpo ?_
          refine lv_icmp_eq (tgt := 2362) hx hb dL_law_2357 (by decide) (fun _ => ?_) (fun c9 => absurd (by decide) c9)
          exact law_end C0 hS (Nat.le_of_ble_eq_true rfl) (Nat.le_of_ble_eq_true rfl) ls hl
        · subst e9
          refine cvR (n := 5) (As := [.int 2, .int p2, .int 2, .int p4, .int p5]) (rest := []) ⟨hx, hb, hml, hown, hts⟩ (fun _ h => uw_in h) (kX9_paste_10 l D cB cI cJ cZ cT cR (A 0) (A 51) (A 56) (A 1) (A 3) (A 12) (A 21) (A 49) (A 60) (A 61) (A 62) (A 63) (A 64) (A 52) (A 54) (A 58) (A 57) p2 p4 p5) q_m1173 q_n1174 q_e1175 q_i1 q_c1176 (by decide +kernel) ⟨(Nat.le_of_ble_eq_true rfl), (Nat.le_of_ble_eq_true rfl)⟩ ⟨(Nat.le_of_ble_eq_true rfl), (Nat.le_of_ble_eq_true rfl)⟩ hK (hP.sub (ws' := [((A 0), .inr (9, [.ref (A 1), .ref (A 3), .ref (A 12), .ref (A 21), .int 0, .ref (A 49), .ref (A 51), .ref (A 60), .ref (A 61), .ref (A 62), .ref (A 63), .ref (A 64)])), ((A 51), .inl (cR, 4, .inr (.inr (.inr (.inr (va_up (va_up (va_up (va_up (fun _ => none) 0 (some (A 52))) 1 (some (A 54))) 2 (some (A 56))) 3 (some (A 58)))))))), ((A 56), .inr (3, [.int (-1), .int 0, .ref (A 57)]))]) [0, 1, 4] rfl) 9 0 rfl rfl rfl hl.1 rfl (Nat.le_of_ble_eq_true rfl) dL_law_2325 ?_
          refine lv_aload_n hx hb dL_law_2328 rfl (lv_at hl 1 rfl) ?_
          refine lv_aload_n hx hb dL_law_2329 rfl (lv_at hl 3 rfl) ?_
          refine lv_iload_n hx hb dL_law_2330 rfl (lv_at hl 0 rfl) ?_
          refine lv_iconst (v := 1) hx hb dL_law_2331 (by decide) ?_
          refine lv_iadd hx hb dL_law_2332 ?_
          refine pv_i (v := 1) (by decide) ?_
          refine va_sld hx hb hX hbl hbA hS (vp_in_iff.mpr ⟨by decide, by decide⟩) dL_law_2333 ?_
          refine pv_i (v := 2) ep1.symm ?_
          refine lv_aload_n hx hb dL_law_2334 rfl (lv_at hl 3 rfl) ?_
          refine lv_iload_n hx hb dL_law_2335 rfl (lv_at hl 0 rfl) ?_
          refine lv_iconst (v := 2) hx hb dL_law_2336 (by decide) ?_
          refine lv_iadd hx hb dL_law_2337 ?_
          refine pv_i (v := 2) (by decide) ?_
          refine va_sld hx hb hX hbl hbA hS (vp_in_iff.mpr ⟨by decide, by decide⟩) dL_law_2338 ?_
          refine pv_i (v := p2) ep2.symm ?_
          refine lv_aload_n hx hb dL_law_2339 rfl (lv_at hl 3 rfl) ?_
          refine lv_iload_n hx hb dL_law_2340 rfl (lv_at hl 0 rfl) ?_
          refine lv_iconst (v := 3) hx hb dL_law_2341 (by decide) ?_
          refine lv_iadd hx hb dL_law_2342 ?_
          refine pv_i (v := 3) (by decide) ?_
          refine va_sld hx hb hX hbl hbA hS (vp_in_iff.mpr ⟨by decide, by decide⟩) dL_law_2343 ?_
          refine pv_i (v := 2) ep3.symm ?_
          refine lv_aload_n hx hb dL_law_2344 rfl (lv_at hl 3 rfl) ?_
          refine lv_iload_n hx hb dL_law_2345 rfl (lv_at hl 0 rfl) ?_
          refine lv_iconst (v := 4) hx hb dL_law_2346 (by decide) ?_
          refine lv_iadd hx hb dL_law_2347 ?_
          refine pv_i (v := 4) (by decide) ?_
          refine va_sld hx hb hX hbl hbA hS (vp_in_iff.mpr ⟨by decide, by decide⟩) dL_law_2348 ?_
          refine pv_i (v := p4) ep4.symm ?_
          refine lv_aload_n hx hb dL_law_2349 rfl (lv_at hl 3 rfl) ?_
          refine lv_iload_n hx hb dL_law_2350 rfl (lv_at hl 0 rfl) ?_
          refine lv_iconst (v := 5) hx hb dL_law_2351 (by decide) ?_
          refine lv_iadd hx hb dL_law_2352 ?_
          refine pv_i (v := 5) (by decide) ?_
          refine va_sld hx hb hX hbl hbA hS (vp_in_iff.mpr ⟨by decide, by decide⟩) dL_law_2353 ?_
          refine pv_i (v := p5) ep5.symm ?_
          refine cvM (n := 5) (As := [.int 2, .int p2, .int 2, .int p4, .int p5]) (rest := [.int (-6)]) (wr := [((A 0), .inr (9, [.ref (A 1), .ref (A 3), .ref (A 12), .ref (A 21), .int 0, .ref (A 49), .ref (A 51), .ref (A 60), .ref (A 61), .ref (A 62), .ref (A 63), .ref (A 64)])), ((A 51), .inl (cR, 4, .inr (.inr (.inr (.inr (va_up (va_up (va_up (va_up (fun _ => none) 0 (some (A 52))) 1 (some (A 54))) 2 (some (A 56))) 3 (some (A 58)))))))), ((A 52), .inr (3, [.int (-1), .int 0, .ref (A 53)])), ((A 54), .inr (3, [.int (-1), .int 0, .ref (A 55)])), ((A 56), .inr (3, [.int (-1), .int 0, .ref (A 57)])), ((A 58), .inr (3, [.int (-1), .int 0, .ref (A 59)]))]) ⟨hx, hb, hml, hown, hts⟩ (fun _ h => uw_in h) (kX10_paste_10 l D cB cI cJ cZ cT cR (B 0) (B 1) (B 2) (B 3) (B 4) (B 5) (B 6) (B 7) (B 8) (B 9) (B 10) (B 11) (B 12) (B 13) (B 14) (B 15) (B 16) (B 17) (B 18) p2 p4 p5 H.size) q_m1334 q_n1335 q_e1336 q_i11 q_c1337 (by decide +kernel) ⟨(Nat.le_of_ble_eq_true rfl), (Nat.le_of_ble_eq_true rfl)⟩ ⟨(Nat.le_of_ble_eq_true rfl), (Nat.le_of_ble_eq_true rfl)⟩ hE hK hP hD hS hA [6, 7] [0, 1, 2, 3, 4, 5] rfl rfl rfl rfl (by decide) 10 0 rfl rfl rfl hl.1 rfl (Nat.le_of_ble_eq_true rfl) dL_law_2354 (fun r9 u H locs hpo hP hD hS => ?_)
          have hP : va_P D vwCl [((A 0), .inr (9, [.ref (A 1), .ref (A 3), .ref (A 12), .ref (A 21), .int 0, .ref (A 49), .ref (A 51), .ref (A 60), .ref (A 61), .ref (A 62), .ref (A 63), .ref (A 64)])), ((A 51), .inl (cR, 4, .inr (.inr (.inr (.inr (va_up (va_up (va_up (va_up (fun _ => none) 0 (some (A 52))) 1 (some (A 54))) 2 (some (A 56))) 3 (some (A 58)))))))), ((A 52), .inr (3, [.int (-1), .int 0, .ref (A 53)])), ((A 54), .inr (3, [.int (-1), .int 0, .ref (A 55)])), ((A 56), .inr (3, [.int (-1), .int 0, .ref (A 57)])), ((A 58), .inr (3, [.int (-1), .int 0, .ref (A 59)])), ((B 0), .inr (10, [.int 0, .ref (B 1), .ref (B 2), .ref (B 3), .ref (B 4), .ref (B 5), .int 0, .int 0, .int 0, .int 0, .int 0, .long 0, .int 0, .int 0, .int 0, .int (-1), .ref (B 6), .ref (B 7), .ref (B 8), .ref (B 9), .ref (B 10), .ref (B 11), .ref (B 12), .ref (B 13), .int 0, .int 0, .ref (B 14), .ref (B 15), .int 0, .int 0, .int 0, .ref (B 16), .ref (B 17), .int 0, .int 0, .int 0, .int 0, .int 0, .ref (B 18), .int 0, .int 0, .int 0])), ((B 1), .inl (cI, 4, .inl (fun _ => (-1))))] H := hP
          have hD : va_D (fun q : Nat => s.heap.size ≤ q) [((A 0), .inr (9, [.ref (A 1), .ref (A 3), .ref (A 12), .ref (A 21), .int 0, .ref (A 49), .ref (A 51), .ref (A 60), .ref (A 61), .ref (A 62), .ref (A 63), .ref (A 64)])), ((A 51), .inl (cR, 4, .inr (.inr (.inr (.inr (va_up (va_up (va_up (va_up (fun _ => none) 0 (some (A 52))) 1 (some (A 54))) 2 (some (A 56))) 3 (some (A 58)))))))), ((A 52), .inr (3, [.int (-1), .int 0, .ref (A 53)])), ((A 54), .inr (3, [.int (-1), .int 0, .ref (A 55)])), ((A 56), .inr (3, [.int (-1), .int 0, .ref (A 57)])), ((A 58), .inr (3, [.int (-1), .int 0, .ref (A 59)])), ((B 0), .inr (10, [.int 0, .ref (B 1), .ref (B 2), .ref (B 3), .ref (B 4), .ref (B 5), .int 0, .int 0, .int 0, .int 0, .int 0, .long 0, .int 0, .int 0, .int 0, .int (-1), .ref (B 6), .ref (B 7), .ref (B 8), .ref (B 9), .ref (B 10), .ref (B 11), .ref (B 12), .ref (B 13), .int 0, .int 0, .ref (B 14), .ref (B 15), .int 0, .int 0, .int 0, .ref (B 16), .ref (B 17), .int 0, .int 0, .int 0, .int 0, .int 0, .ref (B 18), .int 0, .int 0, .int 0])), ((B 1), .inl (cI, 4, .inl (fun _ => (-1))))] := hD
          refine W.cs (cells' := 180) (slots' := 4779) rfl rfl ?_
          refine pv_i (v := (-6)) hpo ?_
          refine lv_icmp_eq (tgt := 2362) hx hb dL_law_2357 (by decide) (fun _ => ?_) (fun c9 => absurd (by decide) c9)
          exact law_end C0 hS (Nat.le_of_ble_eq_true rfl) (Nat.le_of_ble_eq_true rfl) ls hl
        · subst e9
          refine cvR (n := 5) (As := [.int 2, .int p2, .int 3, .int p4, .int p5]) (rest := []) ⟨hx, hb, hml, hown, hts⟩ (fun _ h => uw_in h) (kX9_paste_11 l D cB cI cJ cZ cT cR (A 0) (A 51) (A 56) (A 1) (A 3) (A 12) (A 21) (A 49) (A 60) (A 61) (A 62) (A 63) (A 64) (A 52) (A 54) (A 58) (A 57) p2 p4 p5) q_m1173 q_n1174 q_e1175 q_i1 q_c1176 (by decide +kernel) ⟨(Nat.le_of_ble_eq_true rfl), (Nat.le_of_ble_eq_true rfl)⟩ ⟨(Nat.le_of_ble_eq_true rfl), (Nat.le_of_ble_eq_true rfl)⟩ hK (hP.sub (ws' := [((A 0), .inr (9, [.ref (A 1), .ref (A 3), .ref (A 12), .ref (A 21), .int 0, .ref (A 49), .ref (A 51), .ref (A 60), .ref (A 61), .ref (A 62), .ref (A 63), .ref (A 64)])), ((A 51), .inl (cR, 4, .inr (.inr (.inr (.inr (va_up (va_up (va_up (va_up (fun _ => none) 0 (some (A 52))) 1 (some (A 54))) 2 (some (A 56))) 3 (some (A 58)))))))), ((A 56), .inr (3, [.int (-1), .int 0, .ref (A 57)]))]) [0, 1, 4] rfl) 9 0 rfl rfl rfl hl.1 rfl (Nat.le_of_ble_eq_true rfl) dL_law_2325 ?_
          refine lv_aload_n hx hb dL_law_2328 rfl (lv_at hl 1 rfl) ?_
          refine lv_aload_n hx hb dL_law_2329 rfl (lv_at hl 3 rfl) ?_
          refine lv_iload_n hx hb dL_law_2330 rfl (lv_at hl 0 rfl) ?_
          refine lv_iconst (v := 1) hx hb dL_law_2331 (by decide) ?_
          refine lv_iadd hx hb dL_law_2332 ?_
          refine pv_i (v := 1) (by decide) ?_
          refine va_sld hx hb hX hbl hbA hS (vp_in_iff.mpr ⟨by decide, by decide⟩) dL_law_2333 ?_
          refine pv_i (v := 2) ep1.symm ?_
          refine lv_aload_n hx hb dL_law_2334 rfl (lv_at hl 3 rfl) ?_
          refine lv_iload_n hx hb dL_law_2335 rfl (lv_at hl 0 rfl) ?_
          refine lv_iconst (v := 2) hx hb dL_law_2336 (by decide) ?_
          refine lv_iadd hx hb dL_law_2337 ?_
          refine pv_i (v := 2) (by decide) ?_
          refine va_sld hx hb hX hbl hbA hS (vp_in_iff.mpr ⟨by decide, by decide⟩) dL_law_2338 ?_
          refine pv_i (v := p2) ep2.symm ?_
          refine lv_aload_n hx hb dL_law_2339 rfl (lv_at hl 3 rfl) ?_
          refine lv_iload_n hx hb dL_law_2340 rfl (lv_at hl 0 rfl) ?_
          refine lv_iconst (v := 3) hx hb dL_law_2341 (by decide) ?_
          refine lv_iadd hx hb dL_law_2342 ?_
          refine pv_i (v := 3) (by decide) ?_
          refine va_sld hx hb hX hbl hbA hS (vp_in_iff.mpr ⟨by decide, by decide⟩) dL_law_2343 ?_
          refine pv_i (v := 3) ep3.symm ?_
          refine lv_aload_n hx hb dL_law_2344 rfl (lv_at hl 3 rfl) ?_
          refine lv_iload_n hx hb dL_law_2345 rfl (lv_at hl 0 rfl) ?_
          refine lv_iconst (v := 4) hx hb dL_law_2346 (by decide) ?_
          refine lv_iadd hx hb dL_law_2347 ?_
          refine pv_i (v := 4) (by decide) ?_
          refine va_sld hx hb hX hbl hbA hS (vp_in_iff.mpr ⟨by decide, by decide⟩) dL_law_2348 ?_
          refine pv_i (v := p4) ep4.symm ?_
          refine lv_aload_n hx hb dL_law_2349 rfl (lv_at hl 3 rfl) ?_
          refine lv_iload_n hx hb dL_law_2350 rfl (lv_at hl 0 rfl) ?_
          refine lv_iconst (v := 5) hx hb dL_law_2351 (by decide) ?_
          refine lv_iadd hx hb dL_law_2352 ?_
          refine pv_i (v := 5) (by decide) ?_
          refine va_sld hx hb hX hbl hbA hS (vp_in_iff.mpr ⟨by decide, by decide⟩) dL_law_2353 ?_
          refine pv_i (v := p5) ep5.symm ?_
          refine cvM (n := 5) (As := [.int 2, .int p2, .int 3, .int p4, .int p5]) (rest := [.int (-6)]) (wr := [((A 0), .inr (9, [.ref (A 1), .ref (A 3), .ref (A 12), .ref (A 21), .int 0, .ref (A 49), .ref (A 51), .ref (A 60), .ref (A 61), .ref (A 62), .ref (A 63), .ref (A 64)])), ((A 51), .inl (cR, 4, .inr (.inr (.inr (.inr (va_up (va_up (va_up (va_up (fun _ => none) 0 (some (A 52))) 1 (some (A 54))) 2 (some (A 56))) 3 (some (A 58)))))))), ((A 52), .inr (3, [.int (-1), .int 0, .ref (A 53)])), ((A 54), .inr (3, [.int (-1), .int 0, .ref (A 55)])), ((A 56), .inr (3, [.int (-1), .int 0, .ref (A 57)])), ((A 58), .inr (3, [.int (-1), .int 0, .ref (A 59)]))]) ⟨hx, hb, hml, hown, hts⟩ (fun _ h => uw_in h) (kX10_paste_11 l D cB cI cJ cZ cT cR (B 0) (B 1) (B 2) (B 3) (B 4) (B 5) (B 6) (B 7) (B 8) (B 9) (B 10) (B 11) (B 12) (B 13) (B 14) (B 15) (B 16) (B 17) (B 18) p2 p4 p5 H.size) q_m1334 q_n1335 q_e1336 q_i11 q_c1337 (by decide +kernel) ⟨(Nat.le_of_ble_eq_true rfl), (Nat.le_of_ble_eq_true rfl)⟩ ⟨(Nat.le_of_ble_eq_true rfl), (Nat.le_of_ble_eq_true rfl)⟩ hE hK hP hD hS hA [6, 7] [0, 1, 2, 3, 4, 5] rfl rfl rfl rfl (by decide) 10 0 rfl rfl rfl hl.1 rfl (Nat.le_of_ble_eq_true rfl) dL_law_2354 (fun r9 u H locs hpo hP hD hS => ?_)
          have hP : va_P D vwCl [((A 0), .inr (9, [.ref (A 1), .ref (A 3), .ref (A 12), .ref (A 21), .int 0, .ref (A 49), .ref (A 51), .ref (A 60), .ref (A 61), .ref (A 62), .ref (A 63), .ref (A 64)])), ((A 51), .inl (cR, 4, .inr (.inr (.inr (.inr (va_up (va_up (va_up (va_up (fun _ => none) 0 (some (A 52))) 1 (some (A 54))) 2 (some (A 56))) 3 (some (A 58)))))))), ((A 52), .inr (3, [.int (-1), .int 0, .ref (A 53)])), ((A 54), .inr (3, [.int (-1), .int 0, .ref (A 55)])), ((A 56), .inr (3, [.int (-1), .int 0, .ref (A 57)])), ((A 58), .inr (3, [.int (-1), .int 0, .ref (A 59)])), ((B 0), .inr (10, [.int 0, .ref (B 1), .ref (B 2), .ref (B 3), .ref (B 4), .ref (B 5), .int 0, .int 0, .int 0, .int 0, .int 0, .long 0, .int 0, .int 0, .int 0, .int (-1), .ref (B 6), .ref (B 7), .ref (B 8), .ref (B 9), .ref (B 10), .ref (B 11), .ref (B 12), .ref (B 13), .int 0, .int 0, .ref (B 14), .ref (B 15), .int 0, .int 0, .int 0, .ref (B 16), .ref (B 17), .int 0, .int 0, .int 0, .int 0, .int 0, .ref (B 18), .int 0, .int 0, .int 0])), ((B 1), .inl (cI, 4, .inl (fun _ => (-1))))] H := hP
          have hD : va_D (fun q : Nat => s.heap.size ≤ q) [((A 0), .inr (9, [.ref (A 1), .ref (A 3), .ref (A 12), .ref (A 21), .int 0, .ref (A 49), .ref (A 51), .ref (A 60), .ref (A 61), .ref (A 62), .ref (A 63), .ref (A 64)])), ((A 51), .inl (cR, 4, .inr (.inr (.inr (.inr (va_up (va_up (va_up (va_up (fun _ => none) 0 (some (A 52))) 1 (some (A 54))) 2 (some (A 56))) 3 (some (A 58)))))))), ((A 52), .inr (3, [.int (-1), .int 0, .ref (A 53)])), ((A 54), .inr (3, [.int (-1), .int 0, .ref (A 55)])), ((A 56), .inr (3, [.int (-1), .int 0, .ref (A 57)])), ((A 58), .inr (3, [.int (-1), .int 0, .ref (A 59)])), ((B 0), .inr (10, [.int 0, .ref (B 1), .ref (B 2), .ref (B 3), .ref (B 4), .ref (B 5), .int 0, .int 0, .int 0, .int 0, .int 0, .long 0, .int 0, .int 0, .int 0, .int (-1), .ref (B 6), .ref (B 7), .ref (B 8), .ref (B 9), .ref (B 10), .ref (B 11), .ref (B 12), .ref (B 13), .int 0, .int 0, .ref (B 14), .ref (B 15), .int 0, .int 0, .int 0, .ref (B 16), .ref (B 17), .int 0, .int 0, .int 0, .int 0, .int 0, .ref (B 18), .int 0, .int 0, .int 0])), ((B 1), .inl (cI, 4, .inl (fun _ => (-1))))] := hD
          refine W.cs (cells' := 180) (slots' := 4779) rfl rfl ?_
          refine pv_i (v := (-6)) hpo ?_
          refine lv_icmp_eq (tgt := 2362) hx hb dL_law_2357 (by decide) (fun _ => ?_) (fun c9 => absurd (by decide) c9)
          exact law_end C0 hS (Nat.le_of_ble_eq_true rfl) (Nat.le_of_ble_eq_true rfl) ls hl
      · subst e9
        rcases case4 hc2 with e9 | e9 | e9 | e9
        · subst e9
          refine cvR (n := 5) (As := [.int 3, .int p2, .int 0, .int p4, .int p5]) (rest := []) ⟨hx, hb, hml, hown, hts⟩ (fun _ h => uw_in h) (kX9_paste_12 l D cB cI cJ cZ cT cR (A 0) (A 51) (A 58) (A 1) (A 3) (A 12) (A 21) (A 49) (A 60) (A 61) (A 62) (A 63) (A 64) (A 52) (A 54) (A 56) (A 59) p2 p4 p5) q_m1173 q_n1174 q_e1175 q_i1 q_c1176 (by decide +kernel) ⟨(Nat.le_of_ble_eq_true rfl), (Nat.le_of_ble_eq_true rfl)⟩ ⟨(Nat.le_of_ble_eq_true rfl), (Nat.le_of_ble_eq_true rfl)⟩ hK (hP.sub (ws' := [((A 0), .inr (9, [.ref (A 1), .ref (A 3), .ref (A 12), .ref (A 21), .int 0, .ref (A 49), .ref (A 51), .ref (A 60), .ref (A 61), .ref (A 62), .ref (A 63), .ref (A 64)])), ((A 51), .inl (cR, 4, .inr (.inr (.inr (.inr (va_up (va_up (va_up (va_up (fun _ => none) 0 (some (A 52))) 1 (some (A 54))) 2 (some (A 56))) 3 (some (A 58)))))))), ((A 58), .inr (3, [.int (-1), .int 0, .ref (A 59)]))]) [0, 1, 5] rfl) 9 0 rfl rfl rfl hl.1 rfl (Nat.le_of_ble_eq_true rfl) dL_law_2325 ?_
          refine lv_aload_n hx hb dL_law_2328 rfl (lv_at hl 1 rfl) ?_
          refine lv_aload_n hx hb dL_law_2329 rfl (lv_at hl 3 rfl) ?_
          refine lv_iload_n hx hb dL_law_2330 rfl (lv_at hl 0 rfl) ?_
          refine lv_iconst (v := 1) hx hb dL_law_2331 (by decide) ?_
          refine lv_iadd hx hb dL_law_2332 ?_
          refine pv_i (v := 1) (by decide) ?_
          refine va_sld hx hb hX hbl hbA hS (vp_in_iff.mpr ⟨by decide, by decide⟩) dL_law_2333 ?_
          refine pv_i (v := 3) ep1.symm ?_
          refine lv_aload_n hx hb dL_law_2334 rfl (lv_at hl 3 rfl) ?_
          refine lv_iload_n hx hb dL_law_2335 rfl (lv_at hl 0 rfl) ?_
          refine lv_iconst (v := 2) hx hb dL_law_2336 (by decide) ?_
          refine lv_iadd hx hb dL_law_2337 ?_
          refine pv_i (v := 2) (by decide) ?_
          refine va_sld hx hb hX hbl hbA hS (vp_in_iff.mpr ⟨by decide, by decide⟩) dL_law_2338 ?_
          refine pv_i (v := p2) ep2.symm ?_
          refine lv_aload_n hx hb dL_law_2339 rfl (lv_at hl 3 rfl) ?_
          refine lv_iload_n hx hb dL_law_2340 rfl (lv_at hl 0 rfl) ?_
          refine lv_iconst (v := 3) hx hb dL_law_2341 (by decide) ?_
          refine lv_iadd hx hb dL_law_2342 ?_
          refine pv_i (v := 3) (by decide) ?_
          refine va_sld hx hb hX hbl hbA hS (vp_in_iff.mpr ⟨by decide, by decide⟩) dL_law_2343 ?_
          refine pv_i (v := 0) ep3.symm ?_
          refine lv_aload_n hx hb dL_law_2344 rfl (lv_at hl 3 rfl) ?_
          refine lv_iload_n hx hb dL_law_2345 rfl (lv_at hl 0 rfl) ?_
          refine lv_iconst (v := 4) hx hb dL_law_2346 (by decide) ?_
          refine lv_iadd hx hb dL_law_2347 ?_
          refine pv_i (v := 4) (by decide) ?_
          refine va_sld hx hb hX hbl hbA hS (vp_in_iff.mpr ⟨by decide, by decide⟩) dL_law_2348 ?_
          refine pv_i (v := p4) ep4.symm ?_
          refine lv_aload_n hx hb dL_law_2349 rfl (lv_at hl 3 rfl) ?_
          refine lv_iload_n hx hb dL_law_2350 rfl (lv_at hl 0 rfl) ?_
          refine lv_iconst (v := 5) hx hb dL_law_2351 (by decide) ?_
          refine lv_iadd hx hb dL_law_2352 ?_
          refine pv_i (v := 5) (by decide) ?_
          refine va_sld hx hb hX hbl hbA hS (vp_in_iff.mpr ⟨by decide, by decide⟩) dL_law_2353 ?_
          refine pv_i (v := p5) ep5.symm ?_
          refine cvM (n := 5) (As := [.int 3, .int p2, .int 0, .int p4, .int p5]) (rest := [.int (-6)]) (wr := [((A 0), .inr (9, [.ref (A 1), .ref (A 3), .ref (A 12), .ref (A 21), .int 0, .ref (A 49), .ref (A 51), .ref (A 60), .ref (A 61), .ref (A 62), .ref (A 63), .ref (A 64)])), ((A 51), .inl (cR, 4, .inr (.inr (.inr (.inr (va_up (va_up (va_up (va_up (fun _ => none) 0 (some (A 52))) 1 (some (A 54))) 2 (some (A 56))) 3 (some (A 58)))))))), ((A 52), .inr (3, [.int (-1), .int 0, .ref (A 53)])), ((A 54), .inr (3, [.int (-1), .int 0, .ref (A 55)])), ((A 56), .inr (3, [.int (-1), .int 0, .ref (A 57)])), ((A 58), .inr (3, [.int (-1), .int 0, .ref (A 59)]))]) ⟨hx, hb, hml, hown, hts⟩ (fun _ h => uw_in h) (kX10_paste_12 l D cB cI cJ cZ cT cR (B 0) (B 1) (B 2) (B 3) (B 4) (B 5) (B 6) (B 7) (B 8) (B 9) (B 10) (B 11) (B 12) (B 13) (B 14) (B 15) (B 16) (B 17) (B 18) p2 p4 p5 H.size) q_m1334 q_n1335 q_e1336 q_i11 q_c1337 (by decide +kernel) ⟨(Nat.le_of_ble_eq_true rfl), (Nat.le_of_ble_eq_true rfl)⟩ ⟨(Nat.le_of_ble_eq_true rfl), (Nat.le_of_ble_eq_true rfl)⟩ hE hK hP hD hS hA [6, 7] [0, 1, 2, 3, 4, 5] rfl rfl rfl rfl (by decide) 10 0 rfl rfl rfl hl.1 rfl (Nat.le_of_ble_eq_true rfl) dL_law_2354 (fun r9 u H locs hpo hP hD hS => ?_)
          have hP : va_P D vwCl [((A 0), .inr (9, [.ref (A 1), .ref (A 3), .ref (A 12), .ref (A 21), .int 0, .ref (A 49), .ref (A 51), .ref (A 60), .ref (A 61), .ref (A 62), .ref (A 63), .ref (A 64)])), ((A 51), .inl (cR, 4, .inr (.inr (.inr (.inr (va_up (va_up (va_up (va_up (fun _ => none) 0 (some (A 52))) 1 (some (A 54))) 2 (some (A 56))) 3 (some (A 58)))))))), ((A 52), .inr (3, [.int (-1), .int 0, .ref (A 53)])), ((A 54), .inr (3, [.int (-1), .int 0, .ref (A 55)])), ((A 56), .inr (3, [.int (-1), .int 0, .ref (A 57)])), ((A 58), .inr (3, [.int (-1), .int 0, .ref (A 59)])), ((B 0), .inr (10, [.int 0, .ref (B 1), .ref (B 2), .ref (B 3), .ref (B 4), .ref (B 5), .int 0, .int 0, .int 0, .int 0, .int 0, .long 0, .int 0, .int 0, .int 0, .int (-1), .ref (B 6), .ref (B 7), .ref (B 8), .ref (B 9), .ref (B 10), .ref (B 11), .ref (B 12), .ref (B 13), .int 0, .int 0, .ref (B 14), .ref (B 15), .int 0, .int 0, .int 0, .ref (B 16), .ref (B 17), .int 0, .int 0, .int 0, .int 0, .int 0, .ref (B 18), .int 0, .int 0, .int 0])), ((B 1), .inl (cI, 4, .inl (fun _ => (-1))))] H := hP
          have hD : va_D (fun q : Nat => s.heap.size ≤ q) [((A 0), .inr (9, [.ref (A 1), .ref (A 3), .ref (A 12), .ref (A 21), .int 0, .ref (A 49), .ref (A 51), .ref (A 60), .ref (A 61), .ref (A 62), .ref (A 63), .ref (A 64)])), ((A 51), .inl (cR, 4, .inr (.inr (.inr (.inr (va_up (va_up (va_up (va_up (fun _ => none) 0 (some (A 52))) 1 (some (A 54))) 2 (some (A 56))) 3 (some (A 58)))))))), ((A 52), .inr (3, [.int (-1), .int 0, .ref (A 53)])), ((A 54), .inr (3, [.int (-1), .int 0, .ref (A 55)])), ((A 56), .inr (3, [.int (-1), .int 0, .ref (A 57)])), ((A 58), .inr (3, [.int (-1), .int 0, .ref (A 59)])), ((B 0), .inr (10, [.int 0, .ref (B 1), .ref (B 2), .ref (B 3), .ref (B 4), .ref (B 5), .int 0, .int 0, .int 0, .int 0, .int 0, .long 0, .int 0, .int 0, .int 0, .int (-1), .ref (B 6), .ref (B 7), .ref (B 8), .ref (B 9), .ref (B 10), .ref (B 11), .ref (B 12), .ref (B 13), .int 0, .int 0, .ref (B 14), .ref (B 15), .int 0, .int 0, .int 0, .ref (B 16), .ref (B 17), .int 0, .int 0, .int 0, .int 0, .int 0, .ref (B 18), .int 0, .int 0, .int 0])), ((B 1), .inl (cI, 4, .inl (fun _ => (-1))))] := hD
          refine W.cs (cells' := 180) (slots' := 4779) rfl rfl ?_
          refine pv_i (v := (-6)) hpo ?_
          refine lv_icmp_eq (tgt := 2362) hx hb dL_law_2357 (by decide) (fun _ => ?_) (fun c9 => absurd (by decide) c9)
          exact law_end C0 hS (Nat.le_of_ble_eq_true rfl) (Nat.le_of_ble_eq_true rfl) ls hl
        · subst e9
          refine cvR (n := 5) (As := [.int 3, .int p2, .int 1, .int p4, .int p5]) (rest := []) ⟨hx, hb, hml, hown, hts⟩ (fun _ h => uw_in h) (kX9_paste_13 l D cB cI cJ cZ cT cR (A 0) (A 51) (A 58) (A 1) (A 3) (A 12) (A 21) (A 49) (A 60) (A 61) (A 62) (A 63) (A 64) (A 52) (A 54) (A 56) (A 59) p2 p4 p5) q_m1173 q_n1174 q_e1175 q_i1 q_c1176 (by decide +kernel) ⟨(Nat.le_of_ble_eq_true rfl), (Nat.le_of_ble_eq_true rfl)⟩ ⟨(Nat.le_of_ble_eq_true rfl), (Nat.le_of_ble_eq_true rfl)⟩ hK (hP.sub (ws' := [((A 0), .inr (9, [.ref (A 1), .ref (A 3), .ref (A 12), .ref (A 21), .int 0, .ref (A 49), .ref (A 51), .ref (A 60), .ref (A 61), .ref (A 62), .ref (A 63), .ref (A 64)])), ((A 51), .inl (cR, 4, .inr (.inr (.inr (.inr (va_up (va_up (va_up (va_up (fun _ => none) 0 (some (A 52))) 1 (some (A 54))) 2 (some (A 56))) 3 (some (A 58)))))))), ((A 58), .inr (3, [.int (-1), .int 0, .ref (A 59)]))]) [0, 1, 5] rfl) 9 0 rfl rfl rfl hl.1 rfl (Nat.le_of_ble_eq_true rfl) dL_law_2325 ?_
          refine lv_aload_n hx hb dL_law_2328 rfl (lv_at hl 1 rfl) ?_
          refine lv_aload_n hx hb dL_law_2329 rfl (lv_at hl 3 rfl) ?_
          refine lv_iload_n hx hb dL_law_2330 rfl (lv_at hl 0 rfl) ?_
          refine lv_iconst (v := 1) hx hb dL_law_2331 (by decide) ?_
          refine lv_iadd hx hb dL_law_2332 ?_
          refine pv_i (v := 1) (by decide) ?_
          refine va_sld hx hb hX hbl hbA hS (vp_in_iff.mpr ⟨by decide, by decide⟩) dL_law_2333 ?_
          refine pv_i (v := 3) ep1.symm ?_
          refine lv_aload_n hx hb dL_law_2334 rfl (lv_at hl 3 rfl) ?_
          refine lv_iload_n hx hb dL_law_2335 rfl (lv_at hl 0 rfl) ?_
          refine lv_iconst (v := 2) hx hb dL_law_2336 (by decide) ?_
          refine lv_iadd hx hb dL_law_2337 ?_
          refine pv_i (v := 2) (by decide) ?_
          refine va_sld hx hb hX hbl hbA hS (vp_in_iff.mpr ⟨by decide, by decide⟩) dL_law_2338 ?_
          refine pv_i (v := p2) ep2.symm ?_
          refine lv_aload_n hx hb dL_law_2339 rfl (lv_at hl 3 rfl) ?_
          refine lv_iload_n hx hb dL_law_2340 rfl (lv_at hl 0 rfl) ?_
          refine lv_iconst (v := 3) hx hb dL_law_2341 (by decide) ?_
          refine lv_iadd hx hb dL_law_2342 ?_
          refine pv_i (v := 3) (by decide) ?_
          refine va_sld hx hb hX hbl hbA hS (vp_in_iff.mpr ⟨by decide, by decide⟩) dL_law_2343 ?_
          refine pv_i (v := 1) ep3.symm ?_
          refine lv_aload_n hx hb dL_law_2344 rfl (lv_at hl 3 rfl) ?_
          refine lv_iload_n hx hb dL_law_2345 rfl (lv_at hl 0 rfl) ?_
          refine lv_iconst (v := 4) hx hb dL_law_2346 (by decide) ?_
          refine lv_iadd hx hb dL_law_2347 ?_
          refine pv_i (v := 4) (by decide) ?_
          refine va_sld hx hb hX hbl hbA hS (vp_in_iff.mpr ⟨by decide, by decide⟩) dL_law_2348 ?_
          refine pv_i (v := p4) ep4.symm ?_
          refine lv_aload_n hx hb dL_law_2349 rfl (lv_at hl 3 rfl) ?_
          refine lv_iload_n hx hb dL_law_2350 rfl (lv_at hl 0 rfl) ?_
          refine lv_iconst (v := 5) hx hb dL_law_2351 (by decide) ?_
          refine lv_iadd hx hb dL_law_2352 ?_
          refine pv_i (v := 5) (by decide) ?_
          refine va_sld hx hb hX hbl hbA hS (vp_in_iff.mpr ⟨by decide, by decide⟩) dL_law_2353 ?_
          refine pv_i (v := p5) ep5.symm ?_
          refine cvM (n := 5) (As := [.int 3, .int p2, .int 1, .int p4, .int p5]) (rest := [.int (-6)]) (wr := [((A 0), .inr (9, [.ref (A 1), .ref (A 3), .ref (A 12), .ref (A 21), .int 0, .ref (A 49), .ref (A 51), .ref (A 60), .ref (A 61), .ref (A 62), .ref (A 63), .ref (A 64)])), ((A 51), .inl (cR, 4, .inr (.inr (.inr (.inr (va_up (va_up (va_up (va_up (fun _ => none) 0 (some (A 52))) 1 (some (A 54))) 2 (some (A 56))) 3 (some (A 58)))))))), ((A 52), .inr (3, [.int (-1), .int 0, .ref (A 53)])), ((A 54), .inr (3, [.int (-1), .int 0, .ref (A 55)])), ((A 56), .inr (3, [.int (-1), .int 0, .ref (A 57)])), ((A 58), .inr (3, [.int (-1), .int 0, .ref (A 59)]))]) ⟨hx, hb, hml, hown, hts⟩ (fun _ h => uw_in h) (kX10_paste_13 l D cB cI cJ cZ cT cR (B 0) (B 1) (B 2) (B 3) (B 4) (B 5) (B 6) (B 7) (B 8) (B 9) (B 10) (B 11) (B 12) (B 13) (B 14) (B 15) (B 16) (B 17) (B 18) p2 p4 p5 H.size) q_m1334 q_n1335 q_e1336 q_i11 q_c1337 (by decide +kernel) ⟨(Nat.le_of_ble_eq_true rfl), (Nat.le_of_ble_eq_true rfl)⟩ ⟨(Nat.le_of_ble_eq_true rfl), (Nat.le_of_ble_eq_true rfl)⟩ hE hK hP hD hS hA [6, 7] [0, 1, 2, 3, 4, 5] rfl rfl rfl rfl (by decide) 10 0 rfl rfl rfl hl.1 rfl (Nat.le_of_ble_eq_true rfl) dL_law_2354 (fun r9 u H locs hpo hP hD hS => ?_)
          have hP : va_P D vwCl [((A 0), .inr (9, [.ref (A 1), .ref (A 3), .ref (A 12), .ref (A 21), .int 0, .ref (A 49), .ref (A 51), .ref (A 60), .ref (A 61), .ref (A 62), .ref (A 63), .ref (A 64)])), ((A 51), .inl (cR, 4, .inr (.inr (.inr (.inr (va_up (va_up (va_up (va_up (fun _ => none) 0 (some (A 52))) 1 (some (A 54))) 2 (some (A 56))) 3 (some (A 58)))))))), ((A 52), .inr (3, [.int (-1), .int 0, .ref (A 53)])), ((A 54), .inr (3, [.int (-1), .int 0, .ref (A 55)])), ((A 56), .inr (3, [.int (-1), .int 0, .ref (A 57)])), ((A 58), .inr (3, [.int (-1), .int 0, .ref (A 59)])), ((B 0), .inr (10, [.int 0, .ref (B 1), .ref (B 2), .ref (B 3), .ref (B 4), .ref (B 5), .int 0, .int 0, .int 0, .int 0, .int 0, .long 0, .int 0, .int 0, .int 0, .int (-1), .ref (B 6), .ref (B 7), .ref (B 8), .ref (B 9), .ref (B 10), .ref (B 11), .ref (B 12), .ref (B 13), .int 0, .int 0, .ref (B 14), .ref (B 15), .int 0, .int 0, .int 0, .ref (B 16), .ref (B 17), .int 0, .int 0, .int 0, .int 0, .int 0, .ref (B 18), .int 0, .int 0, .int 0])), ((B 1), .inl (cI, 4, .inl (fun _ => (-1))))] H := hP
          have hD : va_D (fun q : Nat => s.heap.size ≤ q) [((A 0), .inr (9, [.ref (A 1), .ref (A 3), .ref (A 12), .ref (A 21), .int 0, .ref (A 49), .ref (A 51), .ref (A 60), .ref (A 61), .ref (A 62), .ref (A 63), .ref (A 64)])), ((A 51), .inl (cR, 4, .inr (.inr (.inr (.inr (va_up (va_up (va_up (va_up (fun _ => none) 0 (some (A 52))) 1 (some (A 54))) 2 (some (A 56))) 3 (some (A 58)))))))), ((A 52), .inr (3, [.int (-1), .int 0, .ref (A 53)])), ((A 54), .inr (3, [.int (-1), .int 0, .ref (A 55)])), ((A 56), .inr (3, [.int (-1), .int 0, .ref (A 57)])), ((A 58), .inr (3, [.int (-1), .int 0, .ref (A 59)])), ((B 0), .inr (10, [.int 0, .ref (B 1), .ref (B 2), .ref (B 3), .ref (B 4), .ref (B 5), .int 0, .int 0, .int 0, .int 0, .int 0, .long 0, .int 0, .int 0, .int 0, .int (-1), .ref (B 6), .ref (B 7), .ref (B 8), .ref (B 9), .ref (B 10), .ref (B 11), .ref (B 12), .ref (B 13), .int 0, .int 0, .ref (B 14), .ref (B 15), .int 0, .int 0, .int 0, .ref (B 16), .ref (B 17), .int 0, .int 0, .int 0, .int 0, .int 0, .ref (B 18), .int 0, .int 0, .int 0])), ((B 1), .inl (cI, 4, .inl (fun _ => (-1))))] := hD
          refine W.cs (cells' := 180) (slots' := 4779) rfl rfl ?_
          refine pv_i (v := (-6)) hpo ?_
          refine lv_icmp_eq (tgt := 2362) hx hb dL_law_2357 (by decide) (fun _ => ?_) (fun c9 => absurd (by decide) c9)
          exact law_end C0 hS (Nat.le_of_ble_eq_true rfl) (Nat.le_of_ble_eq_true rfl) ls hl
        · subst e9
          refine cvR (n := 5) (As := [.int 3, .int p2, .int 2, .int p4, .int p5]) (rest := []) ⟨hx, hb, hml, hown, hts⟩ (fun _ h => uw_in h) (kX9_paste_14 l D cB cI cJ cZ cT cR (A 0) (A 51) (A 58) (A 1) (A 3) (A 12) (A 21) (A 49) (A 60) (A 61) (A 62) (A 63) (A 64) (A 52) (A 54) (A 56) (A 59) p2 p4 p5) q_m1173 q_n1174 q_e1175 q_i1 q_c1176 (by decide +kernel) ⟨(Nat.le_of_ble_eq_true rfl), (Nat.le_of_ble_eq_true rfl)⟩ ⟨(Nat.le_of_ble_eq_true rfl), (Nat.le_of_ble_eq_true rfl)⟩ hK (hP.sub (ws' := [((A 0), .inr (9, [.ref (A 1), .ref (A 3), .ref (A 12), .ref (A 21), .int 0, .ref (A 49), .ref (A 51), .ref (A 60), .ref (A 61), .ref (A 62), .ref (A 63), .ref (A 64)])), ((A 51), .inl (cR, 4, .inr (.inr (.inr (.inr (va_up (va_up (va_up (va_up (fun _ => none) 0 (some (A 52))) 1 (some (A 54))) 2 (some (A 56))) 3 (some (A 58)))))))), ((A 58), .inr (3, [.int (-1), .int 0, .ref (A 59)]))]) [0, 1, 5] rfl) 9 0 rfl rfl rfl hl.1 rfl (Nat.le_of_ble_eq_true rfl) dL_law_2325 ?_
          refine lv_aload_n hx hb dL_law_2328 rfl (lv_at hl 1 rfl) ?_
          refine lv_aload_n hx hb dL_law_2329 rfl (lv_at hl 3 rfl) ?_
          refine lv_iload_n hx hb dL_law_2330 rfl (lv_at hl 0 rfl) ?_
          refine lv_iconst (v := 1) hx hb dL_law_2331 (by decide) ?_
          refine lv_iadd hx hb dL_law_2332 ?_
          refine pv_i (v := 1) (by decide) ?_
          refine va_sld hx hb hX hbl hbA hS (vp_in_iff.mpr ⟨by decide, by decide⟩) dL_law_2333 ?_
          refine pv_i (v := 3) ep1.symm ?_
          refine lv_aload_n hx hb dL_law_2334 rfl (lv_at hl 3 rfl) ?_
          refine lv_iload_n hx hb dL_law_2335 rfl (lv_at hl 0 rfl) ?_
          refine lv_iconst (v := 2) hx hb dL_law_2336 (by decide) ?_
          refine lv_iadd hx hb dL_law_2337 ?_
          refine pv_i (v := 2) (by decide) ?_
          refine va_sld hx hb hX hbl hbA hS (vp_in_iff.mpr ⟨by decide, by decide⟩) dL_law_2338 ?_
          refine pv_i (v := p2) ep2.symm ?_
          refine lv_aload_n hx hb dL_law_2339 rfl (lv_at hl 3 rfl) ?_
          refine lv_iload_n hx hb dL_law_2340 rfl (lv_at hl 0 rfl) ?_
          refine lv_iconst (v := 3) hx hb dL_law_2341 (by decide) ?_
          refine lv_iadd hx hb dL_law_2342 ?_
          refine pv_i (v := 3) (by decide) ?_
          refine va_sld hx hb hX hbl hbA hS (vp_in_iff.mpr ⟨by decide, by decide⟩) dL_law_2343 ?_
          refine pv_i (v := 2) ep3.symm ?_
          refine lv_aload_n hx hb dL_law_2344 rfl (lv_at hl 3 rfl) ?_
          refine lv_iload_n hx hb dL_law_2345 rfl (lv_at hl 0 rfl) ?_
          refine lv_iconst (v := 4) hx hb dL_law_2346 (by decide) ?_
          refine lv_iadd hx hb dL_law_2347 ?_
          refine pv_i (v := 4) (by decide) ?_
          refine va_sld hx hb hX hbl hbA hS (vp_in_iff.mpr ⟨by decide, by decide⟩) dL_law_2348 ?_
          refine pv_i (v := p4) ep4.symm ?_
          refine lv_aload_n hx hb dL_law_2349 rfl (lv_at hl 3 rfl) ?_
          refine lv_iload_n hx hb dL_law_2350 rfl (lv_at hl 0 rfl) ?_
          refine lv_iconst (v := 5) hx hb dL_law_2351 (by decide) ?_
          refine lv_iadd hx hb dL_law_2352 ?_
          refine pv_i (v := 5) (by decide) ?_
          refine va_sld hx hb hX hbl hbA hS (vp_in_iff.mpr ⟨by decide, by decide⟩) dL_law_2353 ?_
          refine pv_i (v := p5) ep5.symm ?_
          refine cvM (n := 5) (As := [.int 3, .int p2, .int 2, .int p4, .int p5]) (rest := [.int (-6)]) (wr := [((A 0), .inr (9, [.ref (A 1), .ref (A 3), .ref (A 12), .ref (A 21), .int 0, .ref (A 49), .ref (A 51), .ref (A 60), .ref (A 61), .ref (A 62), .ref (A 63), .ref (A 64)])), ((A 51), .inl (cR, 4, .inr (.inr (.inr (.inr (va_up (va_up (va_up (va_up (fun _ => none) 0 (some (A 52))) 1 (some (A 54))) 2 (some (A 56))) 3 (some (A 58)))))))), ((A 52), .inr (3, [.int (-1), .int 0, .ref (A 53)])), ((A 54), .inr (3, [.int (-1), .int 0, .ref (A 55)])), ((A 56), .inr (3, [.int (-1), .int 0, .ref (A 57)])), ((A 58), .inr (3, [.int (-1), .int 0, .ref (A 59)]))]) ⟨hx, hb, hml, hown, hts⟩ (fun _ h => uw_in h) (kX10_paste_14 l D cB cI cJ cZ cT cR (B 0) (B 1) (B 2) (B 3) (B 4) (B 5) (B 6) (B 7) (B 8) (B 9) (B 10) (B 11) (B 12) (B 13) (B 14) (B 15) (B 16) (B 17) (B 18) p2 p4 p5 H.size) q_m1334 q_n1335 q_e1336 q_i11 q_c1337 (by decide +kernel) ⟨(Nat.le_of_ble_eq_true rfl), (Nat.le_of_ble_eq_true rfl)⟩ ⟨(Nat.le_of_ble_eq_true rfl), (Nat.le_of_ble_eq_true rfl)⟩ hE hK hP hD hS hA [6, 7] [0, 1, 2, 3, 4, 5] rfl rfl rfl rfl (by decide) 10 0 rfl rfl rfl hl.1 rfl (Nat.le_of_ble_eq_true rfl) dL_law_2354 (fun r9 u H locs hpo hP hD hS => ?_)
          have hP : va_P D vwCl [((A 0), .inr (9, [.ref (A 1), .ref (A 3), .ref (A 12), .ref (A 21), .int 0, .ref (A 49), .ref (A 51), .ref (A 60), .ref (A 61), .ref (A 62), .ref (A 63), .ref (A 64)])), ((A 51), .inl (cR, 4, .inr (.inr (.inr (.inr (va_up (va_up (va_up (va_up (fun _ => none) 0 (some (A 52))) 1 (some (A 54))) 2 (some (A 56))) 3 (some (A 58)))))))), ((A 52), .inr (3, [.int (-1), .int 0, .ref (A 53)])), ((A 54), .inr (3, [.int (-1), .int 0, .ref (A 55)])), ((A 56), .inr (3, [.int (-1), .int 0, .ref (A 57)])), ((A 58), .inr (3, [.int (-1), .int 0, .ref (A 59)])), ((B 0), .inr (10, [.int 0, .ref (B 1), .ref (B 2), .ref (B 3), .ref (B 4), .ref (B 5), .int 0, .int 0, .int 0, .int 0, .int 0, .long 0, .int 0, .int 0, .int 0, .int (-1), .ref (B 6), .ref (B 7), .ref (B 8), .ref (B 9), .ref (B 10), .ref (B 11), .ref (B 12), .ref (B 13), .int 0, .int 0, .ref (B 14), .ref (B 15), .int 0, .int 0, .int 0, .ref (B 16), .ref (B 17), .int 0, .int 0, .int 0, .int 0, .int 0, .ref (B 18), .int 0, .int 0, .int 0])), ((B 1), .inl (cI, 4, .inl (fun _ => (-1))))] H := hP
          have hD : va_D (fun q : Nat => s.heap.size ≤ q) [((A 0), .inr (9, [.ref (A 1), .ref (A 3), .ref (A 12), .ref (A 21), .int 0, .ref (A 49), .ref (A 51), .ref (A 60), .ref (A 61), .ref (A 62), .ref (A 63), .ref (A 64)])), ((A 51), .inl (cR, 4, .inr (.inr (.inr (.inr (va_up (va_up (va_up (va_up (fun _ => none) 0 (some (A 52))) 1 (some (A 54))) 2 (some (A 56))) 3 (some (A 58)))))))), ((A 52), .inr (3, [.int (-1), .int 0, .ref (A 53)])), ((A 54), .inr (3, [.int (-1), .int 0, .ref (A 55)])), ((A 56), .inr (3, [.int (-1), .int 0, .ref (A 57)])), ((A 58), .inr (3, [.int (-1), .int 0, .ref (A 59)])), ((B 0), .inr (10, [.int 0, .ref (B 1), .ref (B 2), .ref (B 3), .ref (B 4), .ref (B 5), .int 0, .int 0, .int 0, .int 0, .int 0, .long 0, .int 0, .int 0, .int 0, .int (-1), .ref (B 6), .ref (B 7), .ref (B 8), .ref (B 9), .ref (B 10), .ref (B 11), .ref (B 12), .ref (B 13), .int 0, .int 0, .ref (B 14), .ref (B 15), .int 0, .int 0, .int 0, .ref (B 16), .ref (B 17), .int 0, .int 0, .int 0, .int 0, .int 0, .ref (B 18), .int 0, .int 0, .int 0])), ((B 1), .inl (cI, 4, .inl (fun _ => (-1))))] := hD
          refine W.cs (cells' := 180) (slots' := 4779) rfl rfl ?_
          refine pv_i (v := (-6)) hpo ?_
          refine lv_icmp_eq (tgt := 2362) hx hb dL_law_2357 (by decide) (fun _ => ?_) (fun c9 => absurd (by decide) c9)
          exact law_end C0 hS (Nat.le_of_ble_eq_true rfl) (Nat.le_of_ble_eq_true rfl) ls hl
        · subst e9
          refine cvR (n := 5) (As := [.int 3, .int p2, .int 3, .int p4, .int p5]) (rest := []) ⟨hx, hb, hml, hown, hts⟩ (fun _ h => uw_in h) (kX9_paste_15 l D cB cI cJ cZ cT cR (A 0) (A 51) (A 58) (A 1) (A 3) (A 12) (A 21) (A 49) (A 60) (A 61) (A 62) (A 63) (A 64) (A 52) (A 54) (A 56) (A 59) p2 p4 p5) q_m1173 q_n1174 q_e1175 q_i1 q_c1176 (by decide +kernel) ⟨(Nat.le_of_ble_eq_true rfl), (Nat.le_of_ble_eq_true rfl)⟩ ⟨(Nat.le_of_ble_eq_true rfl), (Nat.le_of_ble_eq_true rfl)⟩ hK (hP.sub (ws' := [((A 0), .inr (9, [.ref (A 1), .ref (A 3), .ref (A 12), .ref (A 21), .int 0, .ref (A 49), .ref (A 51), .ref (A 60), .ref (A 61), .ref (A 62), .ref (A 63), .ref (A 64)])), ((A 51), .inl (cR, 4, .inr (.inr (.inr (.inr (va_up (va_up (va_up (va_up (fun _ => none) 0 (some (A 52))) 1 (some (A 54))) 2 (some (A 56))) 3 (some (A 58)))))))), ((A 58), .inr (3, [.int (-1), .int 0, .ref (A 59)]))]) [0, 1, 5] rfl) 9 0 rfl rfl rfl hl.1 rfl (Nat.le_of_ble_eq_true rfl) dL_law_2325 ?_
          refine lv_aload_n hx hb dL_law_2328 rfl (lv_at hl 1 rfl) ?_
          refine lv_aload_n hx hb dL_law_2329 rfl (lv_at hl 3 rfl) ?_
          refine lv_iload_n hx hb dL_law_2330 rfl (lv_at hl 0 rfl) ?_
          refine lv_iconst (v := 1) hx hb dL_law_2331 (by decide) ?_
          refine lv_iadd hx hb dL_law_2332 ?_
          refine pv_i (v := 1) (by decide) ?_
          refine va_sld hx hb hX hbl hbA hS (vp_in_iff.mpr ⟨by decide, by decide⟩) dL_law_2333 ?_
          refine pv_i (v := 3) ep1.symm ?_
          refine lv_aload_n hx hb dL_law_2334 rfl (lv_at hl 3 rfl) ?_
          refine lv_iload_n hx hb dL_law_2335 rfl (lv_at hl 0 rfl) ?_
          refine lv_iconst (v := 2) hx hb dL_law_2336 (by decide) ?_
          refine lv_iadd hx hb dL_law_2337 ?_
          refine pv_i (v := 2) (by decide) ?_
          refine va_sld hx hb hX hbl hbA hS (vp_in_iff.mpr ⟨by decide, by decide⟩) dL_law_2338 ?_
          refine pv_i (v := p2) ep2.symm ?_
          refine lv_aload_n hx hb dL_law_2339 rfl (lv_at hl 3 rfl) ?_
          refine lv_iload_n hx hb dL_law_2340 rfl (lv_at hl 0 rfl) ?_
          refine lv_iconst (v := 3) hx hb dL_law_2341 (by decide) ?_
          refine lv_iadd hx hb dL_law_2342 ?_
          refine pv_i (v := 3) (by decide) ?_
          refine va_sld hx hb hX hbl hbA hS (vp_in_iff.mpr ⟨by decide, by decide⟩) dL_law_2343 ?_
          refine pv_i (v := 3) ep3.symm ?_
          refine lv_aload_n hx hb dL_law_2344 rfl (lv_at hl 3 rfl) ?_
          refine lv_iload_n hx hb dL_law_2345 rfl (lv_at hl 0 rfl) ?_
          refine lv_iconst (v := 4) hx hb dL_law_2346 (by decide) ?_
          refine lv_iadd hx hb dL_law_2347 ?_
          refine pv_i (v := 4) (by decide) ?_
          refine va_sld hx hb hX hbl hbA hS (vp_in_iff.mpr ⟨by decide, by decide⟩) dL_law_2348 ?_
          refine pv_i (v := p4) ep4.symm ?_
          refine lv_aload_n hx hb dL_law_2349 rfl (lv_at hl 3 rfl) ?_
          refine lv_iload_n hx hb dL_law_2350 rfl (lv_at hl 0 rfl) ?_
          refine lv_iconst (v := 5) hx hb dL_law_2351 (by decide) ?_
          refine lv_iadd hx hb dL_law_2352 ?_
          refine pv_i (v := 5) (by decide) ?_
          refine va_sld hx hb hX hbl hbA hS (vp_in_iff.mpr ⟨by decide, by decide⟩) dL_law_2353 ?_
          refine pv_i (v := p5) ep5.symm ?_
          refine cvM (n := 5) (As := [.int 3, .int p2, .int 3, .int p4, .int p5]) (rest := [.int (-6)]) (wr := [((A 0), .inr (9, [.ref (A 1), .ref (A 3), .ref (A 12), .ref (A 21), .int 0, .ref (A 49), .ref (A 51), .ref (A 60), .ref (A 61), .ref (A 62), .ref (A 63), .ref (A 64)])), ((A 51), .inl (cR, 4, .inr (.inr (.inr (.inr (va_up (va_up (va_up (va_up (fun _ => none) 0 (some (A 52))) 1 (some (A 54))) 2 (some (A 56))) 3 (some (A 58)))))))), ((A 52), .inr (3, [.int (-1), .int 0, .ref (A 53)])), ((A 54), .inr (3, [.int (-1), .int 0, .ref (A 55)])), ((A 56), .inr (3, [.int (-1), .int 0, .ref (A 57)])), ((A 58), .inr (3, [.int (-1), .int 0, .ref (A 59)]))]) ⟨hx, hb, hml, hown, hts⟩ (fun _ h => uw_in h) (kX10_paste_15 l D cB cI cJ cZ cT cR (B 0) (B 1) (B 2) (B 3) (B 4) (B 5) (B 6) (B 7) (B 8) (B 9) (B 10) (B 11) (B 12) (B 13) (B 14) (B 15) (B 16) (B 17) (B 18) p2 p4 p5 H.size) q_m1334 q_n1335 q_e1336 q_i11 q_c1337 (by decide +kernel) ⟨(Nat.le_of_ble_eq_true rfl), (Nat.le_of_ble_eq_true rfl)⟩ ⟨(Nat.le_of_ble_eq_true rfl), (Nat.le_of_ble_eq_true rfl)⟩ hE hK hP hD hS hA [6, 7] [0, 1, 2, 3, 4, 5] rfl rfl rfl rfl (by decide) 10 0 rfl rfl rfl hl.1 rfl (Nat.le_of_ble_eq_true rfl) dL_law_2354 (fun r9 u H locs hpo hP hD hS => ?_)
          have hP : va_P D vwCl [((A 0), .inr (9, [.ref (A 1), .ref (A 3), .ref (A 12), .ref (A 21), .int 0, .ref (A 49), .ref (A 51), .ref (A 60), .ref (A 61), .ref (A 62), .ref (A 63), .ref (A 64)])), ((A 51), .inl (cR, 4, .inr (.inr (.inr (.inr (va_up (va_up (va_up (va_up (fun _ => none) 0 (some (A 52))) 1 (some (A 54))) 2 (some (A 56))) 3 (some (A 58)))))))), ((A 52), .inr (3, [.int (-1), .int 0, .ref (A 53)])), ((A 54), .inr (3, [.int (-1), .int 0, .ref (A 55)])), ((A 56), .inr (3, [.int (-1), .int 0, .ref (A 57)])), ((A 58), .inr (3, [.int (-1), .int 0, .ref (A 59)])), ((B 0), .inr (10, [.int 0, .ref (B 1), .ref (B 2), .ref (B 3), .ref (B 4), .ref (B 5), .int 0, .int 0, .int 0, .int 0, .int 0, .long 0, .int 0, .int 0, .int 0, .int (-1), .ref (B 6), .ref (B 7), .ref (B 8), .ref (B 9), .ref (B 10), .ref (B 11), .ref (B 12), .ref (B 13), .int 0, .int 0, .ref (B 14), .ref (B 15), .int 0, .int 0, .int 0, .ref (B 16), .ref (B 17), .int 0, .int 0, .int 0, .int 0, .int 0, .ref (B 18), .int 0, .int 0, .int 0])), ((B 1), .inl (cI, 4, .inl (fun _ => (-1))))] H := hP
          have hD : va_D (fun q : Nat => s.heap.size ≤ q) [((A 0), .inr (9, [.ref (A 1), .ref (A 3), .ref (A 12), .ref (A 21), .int 0, .ref (A 49), .ref (A 51), .ref (A 60), .ref (A 61), .ref (A 62), .ref (A 63), .ref (A 64)])), ((A 51), .inl (cR, 4, .inr (.inr (.inr (.inr (va_up (va_up (va_up (va_up (fun _ => none) 0 (some (A 52))) 1 (some (A 54))) 2 (some (A 56))) 3 (some (A 58)))))))), ((A 52), .inr (3, [.int (-1), .int 0, .ref (A 53)])), ((A 54), .inr (3, [.int (-1), .int 0, .ref (A 55)])), ((A 56), .inr (3, [.int (-1), .int 0, .ref (A 57)])), ((A 58), .inr (3, [.int (-1), .int 0, .ref (A 59)])), ((B 0), .inr (10, [.int 0, .ref (B 1), .ref (B 2), .ref (B 3), .ref (B 4), .ref (B 5), .int 0, .int 0, .int 0, .int 0, .int 0, .long 0, .int 0, .int 0, .int 0, .int (-1), .ref (B 6), .ref (B 7), .ref (B 8), .ref (B 9), .ref (B 10), .ref (B 11), .ref (B 12), .ref (B 13), .int 0, .int 0, .ref (B 14), .ref (B 15), .int 0, .int 0, .int 0, .ref (B 16), .ref (B 17), .int 0, .int 0, .int 0, .int 0, .int 0, .ref (B 18), .int 0, .int 0, .int 0])), ((B 1), .inl (cI, 4, .inl (fun _ => (-1))))] := hD
          refine W.cs (cells' := 180) (slots' := 4779) rfl rfl ?_
          refine pv_i (v := (-6)) hpo ?_
          refine lv_icmp_eq (tgt := 2362) hx hb dL_law_2357 (by decide) (fun _ => ?_) (fun c9 => absurd (by decide) c9)
          exact law_end C0 hS (Nat.le_of_ble_eq_true rfl) (Nat.le_of_ble_eq_true rfl) ls hl
    · refine cvR (n := 5) (As := [.int p1, .int p2, .int p3, .int p4, .int p5]) (rest := []) ⟨hx, hb, hml, hown, hts⟩ (fun _ h => uw_in h) (kX9_paste_16 l D cB cI cJ cZ cT cR (A 0) (A 1) (A 3) (A 12) (A 21) (A 49) (A 51) (A 60) (A 61) (A 62) (A 63) (A 64) p1 p2 p3 p4 p5 hc1 hc2) q_m1173 q_n1174 q_e1175 q_i1 q_c1176 (by decide +kernel) ⟨(Nat.le_of_ble_eq_true rfl), (Nat.le_of_ble_eq_true rfl)⟩ ⟨(Nat.le_of_ble_eq_true rfl), (Nat.le_of_ble_eq_true rfl)⟩ hK (hP.sub (ws' := [((A 0), .inr (9, [.ref (A 1), .ref (A 3), .ref (A 12), .ref (A 21), .int 0, .ref (A 49), .ref (A 51), .ref (A 60), .ref (A 61), .ref (A 62), .ref (A 63), .ref (A 64)]))]) [0] rfl) 9 0 rfl rfl rfl hl.1 rfl (Nat.le_of_ble_eq_true rfl) dL_law_2325 ?_
      refine lv_aload_n hx hb dL_law_2328 rfl (lv_at hl 1 rfl) ?_
      refine lv_aload_n hx hb dL_law_2329 rfl (lv_at hl 3 rfl) ?_
      refine lv_iload_n hx hb dL_law_2330 rfl (lv_at hl 0 rfl) ?_
      refine lv_iconst (v := 1) hx hb dL_law_2331 (by decide) ?_
      refine lv_iadd hx hb dL_law_2332 ?_
      refine pv_i (v := 1) (by decide) ?_
      refine va_sld hx hb hX hbl hbA hS (vp_in_iff.mpr ⟨by decide, by decide⟩) dL_law_2333 ?_
      refine pv_i (v := p1) ep1.symm ?_
      refine lv_aload_n hx hb dL_law_2334 rfl (lv_at hl 3 rfl) ?_
      refine lv_iload_n hx hb dL_law_2335 rfl (lv_at hl 0 rfl) ?_
      refine lv_iconst (v := 2) hx hb dL_law_2336 (by decide) ?_
      refine lv_iadd hx hb dL_law_2337 ?_
      refine pv_i (v := 2) (by decide) ?_
      refine va_sld hx hb hX hbl hbA hS (vp_in_iff.mpr ⟨by decide, by decide⟩) dL_law_2338 ?_
      refine pv_i (v := p2) ep2.symm ?_
      refine lv_aload_n hx hb dL_law_2339 rfl (lv_at hl 3 rfl) ?_
      refine lv_iload_n hx hb dL_law_2340 rfl (lv_at hl 0 rfl) ?_
      refine lv_iconst (v := 3) hx hb dL_law_2341 (by decide) ?_
      refine lv_iadd hx hb dL_law_2342 ?_
      refine pv_i (v := 3) (by decide) ?_
      refine va_sld hx hb hX hbl hbA hS (vp_in_iff.mpr ⟨by decide, by decide⟩) dL_law_2343 ?_
      refine pv_i (v := p3) ep3.symm ?_
      refine lv_aload_n hx hb dL_law_2344 rfl (lv_at hl 3 rfl) ?_
      refine lv_iload_n hx hb dL_law_2345 rfl (lv_at hl 0 rfl) ?_
      refine lv_iconst (v := 4) hx hb dL_law_2346 (by decide) ?_
      refine lv_iadd hx hb dL_law_2347 ?_
      refine pv_i (v := 4) (by decide) ?_
      refine va_sld hx hb hX hbl hbA hS (vp_in_iff.mpr ⟨by decide, by decide⟩) dL_law_2348 ?_
      refine pv_i (v := p4) ep4.symm ?_
      refine lv_aload_n hx hb dL_law_2349 rfl (lv_at hl 3 rfl) ?_
      refine lv_iload_n hx hb dL_law_2350 rfl (lv_at hl 0 rfl) ?_
      refine lv_iconst (v := 5) hx hb dL_law_2351 (by decide) ?_
      refine lv_iadd hx hb dL_law_2352 ?_
      refine pv_i (v := 5) (by decide) ?_
      refine va_sld hx hb hX hbl hbA hS (vp_in_iff.mpr ⟨by decide, by decide⟩) dL_law_2353 ?_
      refine pv_i (v := p5) ep5.symm ?_
      refine cvM (n := 5) (As := [.int p1, .int p2, .int p3, .int p4, .int p5]) (rest := [.int (-2)]) (wr := [((A 0), .inr (9, [.ref (A 1), .ref (A 3), .ref (A 12), .ref (A 21), .int 0, .ref (A 49), .ref (A 51), .ref (A 60), .ref (A 61), .ref (A 62), .ref (A 63), .ref (A 64)])), ((A 51), .inl (cR, 4, .inr (.inr (.inr (.inr (va_up (va_up (va_up (va_up (fun _ => none) 0 (some (A 52))) 1 (some (A 54))) 2 (some (A 56))) 3 (some (A 58)))))))), ((A 52), .inr (3, [.int (-1), .int 0, .ref (A 53)])), ((A 54), .inr (3, [.int (-1), .int 0, .ref (A 55)])), ((A 56), .inr (3, [.int (-1), .int 0, .ref (A 57)])), ((A 58), .inr (3, [.int (-1), .int 0, .ref (A 59)])), ((B 1), .inl (cI, 4, .inl (fun _ => (-1))))]) ⟨hx, hb, hml, hown, hts⟩ (fun _ h => uw_in h) (kX10_paste_16 l D cB cI cJ cZ cT cR (B 0) (B 1) (B 2) (B 3) (B 4) (B 5) (B 6) (B 7) (B 8) (B 9) (B 10) (B 11) (B 12) (B 13) (B 14) (B 15) (B 16) (B 17) (B 18) p1 p2 p3 p4 p5 hc1 hc2 H.size) q_m1334 q_n1335 q_e1336 q_i11 q_c1337 (by decide +kernel) ⟨(Nat.le_of_ble_eq_true rfl), (Nat.le_of_ble_eq_true rfl)⟩ ⟨(Nat.le_of_ble_eq_true rfl), (Nat.le_of_ble_eq_true rfl)⟩ hE hK hP hD hS hA [6] [0, 1, 2, 3, 4, 5, 7] rfl rfl rfl rfl (by decide) 10 0 rfl rfl rfl hl.1 rfl (Nat.le_of_ble_eq_true rfl) dL_law_2354 (fun r9 u H locs hpo hP hD hS => ?_)
      have hP : va_P D vwCl [((A 0), .inr (9, [.ref (A 1), .ref (A 3), .ref (A 12), .ref (A 21), .int 0, .ref (A 49), .ref (A 51), .ref (A 60), .ref (A 61), .ref (A 62), .ref (A 63), .ref (A 64)])), ((A 51), .inl (cR, 4, .inr (.inr (.inr (.inr (va_up (va_up (va_up (va_up (fun _ => none) 0 (some (A 52))) 1 (some (A 54))) 2 (some (A 56))) 3 (some (A 58)))))))), ((A 52), .inr (3, [.int (-1), .int 0, .ref (A 53)])), ((A 54), .inr (3, [.int (-1), .int 0, .ref (A 55)])), ((A 56), .inr (3, [.int (-1), .int 0, .ref (A 57)])), ((A 58), .inr (3, [.int (-1), .int 0, .ref (A 59)])), ((B 1), .inl (cI, 4, .inl (fun _ => (-1)))), ((B 0), .inr (10, [.int 0, .ref (B 1), .ref (B 2), .ref (B 3), .ref (B 4), .ref (B 5), .int 0, .int 0, .int 0, .int 0, .int 0, .long 0, .int 0, .int 0, .int 0, .int (-1), .ref (B 6), .ref (B 7), .ref (B 8), .ref (B 9), .ref (B 10), .ref (B 11), .ref (B 12), .ref (B 13), .int 0, .int 0, .ref (B 14), .ref (B 15), .int 0, .int 0, .int 0, .ref (B 16), .ref (B 17), .int 0, .int 0, .int 0, .int 0, .int 0, .ref (B 18), .int 0, .int 0, .int 0]))] H := hP
      have hD : va_D (fun q : Nat => s.heap.size ≤ q) [((A 0), .inr (9, [.ref (A 1), .ref (A 3), .ref (A 12), .ref (A 21), .int 0, .ref (A 49), .ref (A 51), .ref (A 60), .ref (A 61), .ref (A 62), .ref (A 63), .ref (A 64)])), ((A 51), .inl (cR, 4, .inr (.inr (.inr (.inr (va_up (va_up (va_up (va_up (fun _ => none) 0 (some (A 52))) 1 (some (A 54))) 2 (some (A 56))) 3 (some (A 58)))))))), ((A 52), .inr (3, [.int (-1), .int 0, .ref (A 53)])), ((A 54), .inr (3, [.int (-1), .int 0, .ref (A 55)])), ((A 56), .inr (3, [.int (-1), .int 0, .ref (A 57)])), ((A 58), .inr (3, [.int (-1), .int 0, .ref (A 59)])), ((B 1), .inl (cI, 4, .inl (fun _ => (-1)))), ((B 0), .inr (10, [.int 0, .ref (B 1), .ref (B 2), .ref (B 3), .ref (B 4), .ref (B 5), .int 0, .int 0, .int 0, .int 0, .int 0, .long 0, .int 0, .int 0, .int 0, .int (-1), .ref (B 6), .ref (B 7), .ref (B 8), .ref (B 9), .ref (B 10), .ref (B 11), .ref (B 12), .ref (B 13), .int 0, .int 0, .ref (B 14), .ref (B 15), .int 0, .int 0, .int 0, .ref (B 16), .ref (B 17), .int 0, .int 0, .int 0, .int 0, .int 0, .ref (B 18), .int 0, .int 0, .int 0]))] := hD
      refine W.cs (cells' := 180) (slots' := 4779) rfl rfl ?_
      refine pv_i (v := (-2)) hpo ?_
      refine lv_icmp_eq (tgt := 2362) hx hb dL_law_2357 (by decide) (fun _ => ?_) (fun c9 => absurd (by decide) c9)
      exact law_end C0 hS (Nat.le_of_ble_eq_true rfl) (Nat.le_of_ble_eq_true rfl) ls hl
  · refine cvR (n := 5) (As := [.int p1, .int p2, .int p3, .int p4, .int p5]) (rest := []) ⟨hx, hb, hml, hown, hts⟩ (fun _ h => uw_in h) (kX9_paste_17 l D cB cI cJ cZ cT cR (A 0) (A 1) (A 3) (A 12) (A 21) (A 49) (A 51) (A 60) (A 61) (A 62) (A 63) (A 64) p1 p2 p3 p4 p5 hc1) q_m1173 q_n1174 q_e1175 q_i1 q_c1176 (by decide +kernel) ⟨(Nat.le_of_ble_eq_true rfl), (Nat.le_of_ble_eq_true rfl)⟩ ⟨(Nat.le_of_ble_eq_true rfl), (Nat.le_of_ble_eq_true rfl)⟩ hK (hP.sub (ws' := [((A 0), .inr (9, [.ref (A 1), .ref (A 3), .ref (A 12), .ref (A 21), .int 0, .ref (A 49), .ref (A 51), .ref (A 60), .ref (A 61), .ref (A 62), .ref (A 63), .ref (A 64)]))]) [0] rfl) 9 0 rfl rfl rfl hl.1 rfl (Nat.le_of_ble_eq_true rfl) dL_law_2325 ?_
    refine lv_aload_n hx hb dL_law_2328 rfl (lv_at hl 1 rfl) ?_
    refine lv_aload_n hx hb dL_law_2329 rfl (lv_at hl 3 rfl) ?_
    refine lv_iload_n hx hb dL_law_2330 rfl (lv_at hl 0 rfl) ?_
    refine lv_iconst (v := 1) hx hb dL_law_2331 (by decide) ?_
    refine lv_iadd hx hb dL_law_2332 ?_
    refine pv_i (v := 1) (by decide) ?_
    refine va_sld hx hb hX hbl hbA hS (vp_in_iff.mpr ⟨by decide, by decide⟩) dL_law_2333 ?_
    refine pv_i (v := p1) ep1.symm ?_
    refine lv_aload_n hx hb dL_law_2334 rfl (lv_at hl 3 rfl) ?_
    refine lv_iload_n hx hb dL_law_2335 rfl (lv_at hl 0 rfl) ?_
    refine lv_iconst (v := 2) hx hb dL_law_2336 (by decide) ?_
    refine lv_iadd hx hb dL_law_2337 ?_
    refine pv_i (v := 2) (by decide) ?_
    refine va_sld hx hb hX hbl hbA hS (vp_in_iff.mpr ⟨by decide, by decide⟩) dL_law_2338 ?_
    refine pv_i (v := p2) ep2.symm ?_
    refine lv_aload_n hx hb dL_law_2339 rfl (lv_at hl 3 rfl) ?_
    refine lv_iload_n hx hb dL_law_2340 rfl (lv_at hl 0 rfl) ?_
    refine lv_iconst (v := 3) hx hb dL_law_2341 (by decide) ?_
    refine lv_iadd hx hb dL_law_2342 ?_
    refine pv_i (v := 3) (by decide) ?_
    refine va_sld hx hb hX hbl hbA hS (vp_in_iff.mpr ⟨by decide, by decide⟩) dL_law_2343 ?_
    refine pv_i (v := p3) ep3.symm ?_
    refine lv_aload_n hx hb dL_law_2344 rfl (lv_at hl 3 rfl) ?_
    refine lv_iload_n hx hb dL_law_2345 rfl (lv_at hl 0 rfl) ?_
    refine lv_iconst (v := 4) hx hb dL_law_2346 (by decide) ?_
    refine lv_iadd hx hb dL_law_2347 ?_
    refine pv_i (v := 4) (by decide) ?_
    refine va_sld hx hb hX hbl hbA hS (vp_in_iff.mpr ⟨by decide, by decide⟩) dL_law_2348 ?_
    refine pv_i (v := p4) ep4.symm ?_
    refine lv_aload_n hx hb dL_law_2349 rfl (lv_at hl 3 rfl) ?_
    refine lv_iload_n hx hb dL_law_2350 rfl (lv_at hl 0 rfl) ?_
    refine lv_iconst (v := 5) hx hb dL_law_2351 (by decide) ?_
    refine lv_iadd hx hb dL_law_2352 ?_
    refine pv_i (v := 5) (by decide) ?_
    refine va_sld hx hb hX hbl hbA hS (vp_in_iff.mpr ⟨by decide, by decide⟩) dL_law_2353 ?_
    refine pv_i (v := p5) ep5.symm ?_
    refine cvM (n := 5) (As := [.int p1, .int p2, .int p3, .int p4, .int p5]) (rest := [.int (-2)]) (wr := [((A 0), .inr (9, [.ref (A 1), .ref (A 3), .ref (A 12), .ref (A 21), .int 0, .ref (A 49), .ref (A 51), .ref (A 60), .ref (A 61), .ref (A 62), .ref (A 63), .ref (A 64)])), ((A 51), .inl (cR, 4, .inr (.inr (.inr (.inr (va_up (va_up (va_up (va_up (fun _ => none) 0 (some (A 52))) 1 (some (A 54))) 2 (some (A 56))) 3 (some (A 58)))))))), ((A 52), .inr (3, [.int (-1), .int 0, .ref (A 53)])), ((A 54), .inr (3, [.int (-1), .int 0, .ref (A 55)])), ((A 56), .inr (3, [.int (-1), .int 0, .ref (A 57)])), ((A 58), .inr (3, [.int (-1), .int 0, .ref (A 59)])), ((B 1), .inl (cI, 4, .inl (fun _ => (-1))))]) ⟨hx, hb, hml, hown, hts⟩ (fun _ h => uw_in h) (kX10_paste_17 l D cB cI cJ cZ cT cR (B 0) (B 1) (B 2) (B 3) (B 4) (B 5) (B 6) (B 7) (B 8) (B 9) (B 10) (B 11) (B 12) (B 13) (B 14) (B 15) (B 16) (B 17) (B 18) p1 p2 p3 p4 p5 hc1 H.size) q_m1334 q_n1335 q_e1336 q_i11 q_c1337 (by decide +kernel) ⟨(Nat.le_of_ble_eq_true rfl), (Nat.le_of_ble_eq_true rfl)⟩ ⟨(Nat.le_of_ble_eq_true rfl), (Nat.le_of_ble_eq_true rfl)⟩ hE hK hP hD hS hA [6] [0, 1, 2, 3, 4, 5, 7] rfl rfl rfl rfl (by decide) 10 0 rfl rfl rfl hl.1 rfl (Nat.le_of_ble_eq_true rfl) dL_law_2354 (fun r9 u H locs hpo hP hD hS => ?_)
    have hP : va_P D vwCl [((A 0), .inr (9, [.ref (A 1), .ref (A 3), .ref (A 12), .ref (A 21), .int 0, .ref (A 49), .ref (A 51), .ref (A 60), .ref (A 61), .ref (A 62), .ref (A 63), .ref (A 64)])), ((A 51), .inl (cR, 4, .inr (.inr (.inr (.inr (va_up (va_up (va_up (va_up (fun _ => none) 0 (some (A 52))) 1 (some (A 54))) 2 (some (A 56))) 3 (some (A 58)))))))), ((A 52), .inr (3, [.int (-1), .int 0, .ref (A 53)])), ((A 54), .inr (3, [.int (-1), .int 0, .ref (A 55)])), ((A 56), .inr (3, [.int (-1), .int 0, .ref (A 57)])), ((A 58), .inr (3, [.int (-1), .int 0, .ref (A 59)])), ((B 1), .inl (cI, 4, .inl (fun _ => (-1)))), ((B 0), .inr (10, [.int 0, .ref (B 1), .ref (B 2), .ref (B 3), .ref (B 4), .ref (B 5), .int 0, .int 0, .int 0, .int 0, .int 0, .long 0, .int 0, .int 0, .int 0, .int (-1), .ref (B 6), .ref (B 7), .ref (B 8), .ref (B 9), .ref (B 10), .ref (B 11), .ref (B 12), .ref (B 13), .int 0, .int 0, .ref (B 14), .ref (B 15), .int 0, .int 0, .int 0, .ref (B 16), .ref (B 17), .int 0, .int 0, .int 0, .int 0, .int 0, .ref (B 18), .int 0, .int 0, .int 0]))] H := hP
    have hD : va_D (fun q : Nat => s.heap.size ≤ q) [((A 0), .inr (9, [.ref (A 1), .ref (A 3), .ref (A 12), .ref (A 21), .int 0, .ref (A 49), .ref (A 51), .ref (A 60), .ref (A 61), .ref (A 62), .ref (A 63), .ref (A 64)])), ((A 51), .inl (cR, 4, .inr (.inr (.inr (.inr (va_up (va_up (va_up (va_up (fun _ => none) 0 (some (A 52))) 1 (some (A 54))) 2 (some (A 56))) 3 (some (A 58)))))))), ((A 52), .inr (3, [.int (-1), .int 0, .ref (A 53)])), ((A 54), .inr (3, [.int (-1), .int 0, .ref (A 55)])), ((A 56), .inr (3, [.int (-1), .int 0, .ref (A 57)])), ((A 58), .inr (3, [.int (-1), .int 0, .ref (A 59)])), ((B 1), .inl (cI, 4, .inl (fun _ => (-1)))), ((B 0), .inr (10, [.int 0, .ref (B 1), .ref (B 2), .ref (B 3), .ref (B 4), .ref (B 5), .int 0, .int 0, .int 0, .int 0, .int 0, .long 0, .int 0, .int 0, .int 0, .int (-1), .ref (B 6), .ref (B 7), .ref (B 8), .ref (B 9), .ref (B 10), .ref (B 11), .ref (B 12), .ref (B 13), .int 0, .int 0, .ref (B 14), .ref (B 15), .int 0, .int 0, .int 0, .ref (B 16), .ref (B 17), .int 0, .int 0, .int 0, .int 0, .int 0, .ref (B 18), .int 0, .int 0, .int 0]))] := hD
    refine W.cs (cells' := 180) (slots' := 4779) rfl rfl ?_
    refine pv_i (v := (-2)) hpo ?_
    refine lv_icmp_eq (tgt := 2362) hx hb dL_law_2357 (by decide) (fun _ => ?_) (fun c9 => absurd (by decide) c9)
    exact law_end C0 hS (Nat.le_of_ble_eq_true rfl) (Nat.le_of_ble_eq_true rfl) ls hl
