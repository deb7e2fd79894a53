def wX6 (C : Nat → ClassId) (a : Nat) (g : Nat → Nat) : va_W := (a, .inr (6, [.ref (g 0), .int 0, .int 0, .int (-1), .int 0, .int 0, .int 0, .int 0])) :: ([((g 0), .inl (C 0, 800, .inl (fun _ => 0)))])
set_option maxHeartbeats 4000000 in
set_option maxRecDepth 100000 in
theorem i_X6 (l : Launch) (D : va_G) (C : Nat → ClassId) (a : Nat) (sz : Nat) : Met l yX6_init (uc yX6_init cX6_init 1 none) (rmL 1 1 800) (va_Pc [.ref a] (MPre D (tyl C) [(a, .inr (6, [.null, .int 0, .int 0, .int 0, .int 0, .int 0, .int 0, .int 0]))] sz)) (va_Qv (fun (g : Nat → Nat) => True) (MB D (tyl C) [(a, .inr (6, [.null, .int 0, .int 0, .int 0, .int 0, .int 0, .int 0, .int 0]))] sz (fun g => wX6 C a g)) (va_A [(a, .inr (6, [.null, .int 0, .int 0, .int 0, .int 0, .int 0, .int 0, .int 0]))] sz)) 1 800 (va_A [(a, .inr (6, [.null, .int 0, .int 0, .int 0, .int 0, .int 0, .int 0, .int 0]))] sz) := by
  refine pm (by decide) (Nat.le_of_ble_eq_true rfl) ?_
  intro p e s m below meth c ls hx hb hr hml hown hlk hnm hts hv hl
  have hown : s.vm.findClass RX6 = some m.cls := hown
  have hl : lv_has ls 1 [(0, .ref a)] := hl
  obtain ⟨hsz, hP, hK, hD0, hE⟩ := hv
  subst hsz
  have hD := hD0.self (sz := s.heap.size)
  obtain ⟨AA, hAe⟩ : ∃ AA, AA = va_A [(a, .inr (6, [.null, .int 0, .int 0, .int 0, .int 0, .int 0, .int 0, .int 0]))] s.heap.size := ⟨_, rfl⟩
  rw [← hAe] at hD
  have hA : ∀ q : Nat, s.heap.size ≤ q → AA q := fun q h => by rw [hAe]; exact Or.inr h
  have hS : va_S AA s.heap s.heap [] := va_S.rf
  obtain ⟨-, hAOT, hAOR, hAOI⟩ := id hE
  have hP : va_P D vwCl ((a, .inr (6, [.null, .int 0, .int 0, .int 0, .int 0, .int 0, .int 0, .int 0])) :: ([] : va_W)) s.heap := hP
  have hD : va_D AA ((a, .inr (6, [.null, .int 0, .int 0, .int 0, .int 0, .int 0, .int 0, .int 0])) :: ([] : va_W)) := hD
  refine lv_aload_n hx hb dX6_init_0 rfl (lv_at hl 0 rfl) ?_
  refine W.objInit hx hb hown (hts _ (uc_in _ q_m32)) (hts _ (uc_in _ q_n25)) (hts _ (uc_in _ q_obj)) rfl (by rw [hml]; exact hl.1) rfl dX6_init_1 (Nat.le_of_ble_eq_true rfl) (Nat.le_of_ble_eq_true rfl) ?_
  refine W.eq (g2 := F0 m 4 ls []) rfl ?_
  refine lv_aload_n hx hb dX6_init_4 rfl (lv_at hl 0 rfl) ?_
  refine lv_sipush (v := 800) hx hb dX6_init_5 (by decide) ?_
  refine nx_B hx hb (hts _ (uc_in _ q_a61)) hK hP hD hS hA (n := 800) (N' := 800) (by decide) (by decide) (Nat.le_of_ble_eq_true rfl) (Nat.le_of_ble_eq_true rfl) (Nat.le_of_ble_eq_true rfl) dX6_init_8 (fun q1 H hP hD hS => ?_)
  obtain ⟨R2, eR2⟩ : ∃ RR : va_W, RR = ([] : va_W) ++ [(q1, .inl (C 0, 800, .inl (fun _ => 0)))] := ⟨_, rfl⟩
  have hP : va_P D vwCl ((a, .inr (6, [.null, .int 0, .int 0, .int 0, .int 0, .int 0, .int 0, .int 0])) :: R2) H := by rw [eR2]; exact hP
  have hD : va_D AA ((a, .inr (6, [.null, .int 0, .int 0, .int 0, .int 0, .int 0, .int 0, .int 0])) :: R2) := by rw [eR2]; exact hD
  refine W.cs (cells' := 1) (slots' := 800) rfl rfl ?_
  refine va_putF (D := D) (ci := 6) (v := .ref q1) (ty := .array .byte) (C := RX6) (T := TX6) (N := 8) hx hb hts (fun w h => uc_in w (inX6 w h)) tyX6 tyX6_ok nmX6 hown hK hP hD hS 0 rfl rfl 0 (by decide) (hts _ (uc_in _ q_f33)) (fun _ h9 => h9) rfl hnm rfl (by decide +kernel) rfl rfl (Nat.le_of_ble_eq_true rfl) dX6_init_10 (fun H locs hP hD hS => ?_)
  have hP : va_P D vwCl ((a, .inr (6, [.ref q1, .int 0, .int 0, .int 0, .int 0, .int 0, .int 0, .int 0])) :: R2) H := hP
  have hD : va_D AA ((a, .inr (6, [.ref q1, .int 0, .int 0, .int 0, .int 0, .int 0, .int 0, .int 0])) :: R2) := hD
  refine lv_aload_n hx hb dX6_init_13 rfl (lv_at hl 0 rfl) ?_
  refine lv_iconst (v := (-1)) hx hb dX6_init_14 (by decide) ?_
  refine va_put (D := D) (ci := 6) (v := .int (-1)) (ty := .int) (C := RX6) (T := TX6) (N := 8) hx hb hts (fun w h => uc_in w (inX6 w h)) tyX6 tyX6_ok nmX6 hown hK hP hD hS 0 rfl rfl 3 (by decide) (hts _ (uc_in _ q_f38)) (fun _ h9 => h9) rfl (by decide +kernel) rfl rfl (Nat.le_of_ble_eq_true rfl) dX6_init_15 (fun H locs hP hD hS => ?_)
  have hP : va_P D vwCl ((a, .inr (6, [.ref q1, .int 0, .int 0, .int (-1), .int 0, .int 0, .int 0, .int 0])) :: R2) H := hP
  have hD : va_D AA ((a, .inr (6, [.ref q1, .int 0, .int 0, .int (-1), .int 0, .int 0, .int 0, .int 0])) :: R2) := hD
  have hP9 : va_P D vwCl (wX6 C a (fun i => ([q1] : List Nat).getD i 0)) H := by rw [eR2] at hP; exact hP
  have hD9 : va_D (va_A [(a, .inr (6, [.null, .int 0, .int 0, .int 0, .int 0, .int 0, .int 0, .int 0]))] s.heap.size) (wX6 C a (fun i => ([q1] : List Nat).getD i 0)) := by rw [← hAe]; rw [eR2] at hD; exact hD
  have hS9 : va_S (va_A [(a, .inr (6, [.null, .int 0, .int 0, .int 0, .int 0, .int 0, .int 0, .int 0]))] s.heap.size) s.heap H locs := by rw [← hAe]; exact hS
  exact W.vret hx hb hr (fun t ht hW => ⟨⟨(fun i => ([q1] : List Nat).getD i 0), rfl, trivial, by rw [ht]; exact hP9, va_K.moved hW.alike hK, hD9⟩, hS9.F ht⟩) hS9.2.2 dX6_init_18
def wX7 (C : Nat → ClassId) (a : Nat) (g : Nat → Nat) : va_W := (a, .inr (7, [.int 0, .int 0, .int 0, .int 0, .int 0, .int 0, .int 0, .int 0, .ref (g 0), .ref (g 1), .ref (g 2), .ref (g 3), .ref (g 4), .ref (g 5), .ref (g 6), .ref (g 7)])) :: ([((g 0), .inl (C 1, 6, .inl (fun _ => 0))), ((g 1), .inl (C 1, 6, .inl (fun _ => 0))), ((g 2), .inl (C 1, 6, .inl (fun _ => 0))), ((g 3), .inl (C 1, 6, .inl (fun _ => 0))), ((g 4), .inl (C 1, 6, .inl (fun _ => 0))), ((g 5), .inl (C 1, 40, .inl (fun _ => 0))), ((g 6), .inl (C 1, 40, .inl (fun _ => 0))), ((g 7), .inl (C 1, 40, .inl (fun _ => 0)))])
set_option maxHeartbeats 4000000 in
set_option maxRecDepth 100000 in
theorem i_X7 (l : Launch) (D : va_G) (C : Nat → ClassId) (a : Nat) (sz : Nat) : Met l yX7_init (uc yX7_init cX7_init 1 none) (rmL 1 8 150) (va_Pc [.ref a] (MPre D (tyl C) [(a, .inr (7, [.int 0, .int 0, .int 0, .int 0, .int 0, .int 0, .int 0, .int 0, .null, .null, .null, .null, .null, .null, .null, .null]))] sz)) (va_Qv (fun (g : Nat → Nat) => True) (MB D (tyl C) [(a, .inr (7, [.int 0, .int 0, .int 0, .int 0, .int 0, .int 0, .int 0, .int 0, .null, .null, .null, .null, .null, .null, .null, .null]))] sz (fun g => wX7 C a g)) (va_A [(a, .inr (7, [.int 0, .int 0, .int 0, .int 0, .int 0, .int 0, .int 0, .int 0, .null, .null, .null, .null, .null, .null, .null, .null]))] sz)) 8 150 (va_A [(a, .inr (7, [.int 0, .int 0, .int 0, .int 0, .int 0, .int 0, .int 0, .int 0, .null, .null, .null, .null, .null, .null, .null, .null]))] sz) := by
  refine pm (by decide) (Nat.le_of_ble_eq_true rfl) ?_
  intro p e s m below meth c ls hx hb hr hml hown hlk hnm hts hv hl
  have hown : s.vm.findClass RX7 = some m.cls := hown
  have hl : lv_has ls 1 [(0, .ref a)] := hl
  obtain ⟨hsz, hP, hK, hD0, hE⟩ := hv
  subst hsz
  have hD := hD0.self (sz := s.heap.size)
  obtain ⟨AA, hAe⟩ : ∃ AA, AA = va_A [(a, .inr (7, [.int 0, .int 0, .int 0, .int 0, .int 0, .int 0, .int 0, .int 0, .null, .null, .null, .null, .null, .null, .null, .null]))] s.heap.size := ⟨_, rfl⟩
  rw [← hAe] at hD
  have hA : ∀ q : Nat, s.heap.size ≤ q → AA q := fun q h => by rw [hAe]; exact Or.inr h
  have hS : va_S AA s.heap s.heap [] := va_S.rf
  obtain ⟨-, hAOT, hAOR, hAOI⟩ := id hE
  have hP : va_P D vwCl ((a, .inr (7, [.int 0, .int 0, .int 0, .int 0, .int 0, .int 0, .int 0, .int 0, .null, .null, .null, .null, .null, .null, .null, .null])) :: ([] : va_W)) s.heap := hP
  have hD : va_D AA ((a, .inr (7, [.int 0, .int 0, .int 0, .int 0, .int 0, .int 0, .int 0, .int 0, .null, .null, .null, .null, .null, .null, .null, .null])) :: ([] : va_W)) := hD
  refine lv_aload_n hx hb dX7_init_0 rfl (lv_at hl 0 rfl) ?_
  refine W.objInit hx hb hown (hts _ (uc_in _ q_m67)) (hts _ (uc_in _ q_n25)) (hts _ (uc_in _ q_obj)) rfl (by rw [hml]; exact hl.1) rfl dX7_init_1 (Nat.le_of_ble_eq_true rfl) (Nat.le_of_ble_eq_true rfl) ?_
  refine W.eq (g2 := F0 m 4 ls []) rfl ?_
  refine lv_aload_n hx hb dX7_init_4 rfl (lv_at hl 0 rfl) ?_
  refine lv_bipush (v := 6) hx hb dX7_init_5 (by decide) ?_
  refine nx_I hx hb (hts _ (uc_in _ q_a151)) hK hP hD hS hA (n := 6) (N' := 6) (by decide) (by decide) (Nat.le_of_ble_eq_true rfl) (Nat.le_of_ble_eq_true rfl) (Nat.le_of_ble_eq_true rfl) dX7_init_7 (fun q1 H hP hD hS => ?_)
  obtain ⟨R2, eR2⟩ : ∃ RR : va_W, RR = ([] : va_W) ++ [(q1, .inl (C 1, 6, .inl (fun _ => 0)))] := ⟨_, rfl⟩
  have hP : va_P D vwCl ((a, .inr (7, [.int 0, .int 0, .int 0, .int 0, .int 0, .int 0, .int 0, .int 0, .null, .null, .null, .null, .null, .null, .null, .null])) :: R2) H := by rw [eR2]; exact hP
  have hD : va_D AA ((a, .inr (7, [.int 0, .int 0, .int 0, .int 0, .int 0, .int 0, .int 0, .int 0, .null, .null, .null, .null, .null, .null, .null, .null])) :: R2) := by rw [eR2]; exact hD
  refine W.cs (cells' := 1) (slots' := 6) rfl rfl ?_
  refine va_putF (D := D) (ci := 7) (v := .ref q1) (ty := .array .int) (C := RX7) (T := TX7) (N := 16) hx hb hts (fun w h => uc_in w (inX7 w h)) tyX7 tyX7_ok nmX7 hown hK hP hD hS 0 rfl rfl 8 (by decide) (hts _ (uc_in _ q_f95)) (fun _ h9 => h9) rfl hnm rfl (by decide +kernel) rfl rfl (Nat.le_of_ble_eq_true rfl) dX7_init_9 (fun H locs hP hD hS => ?_)
  have hP : va_P D vwCl ((a, .inr (7, [.int 0, .int 0, .int 0, .int 0, .int 0, .int 0, .int 0, .int 0, .ref q1, .null, .null, .null, .null, .null, .null, .null])) :: R2) H := hP
  have hD : va_D AA ((a, .inr (7, [.int 0, .int 0, .int 0, .int 0, .int 0, .int 0, .int 0, .int 0, .ref q1, .null, .null, .null, .null, .null, .null, .null])) :: R2) := hD
  refine lv_aload_n hx hb dX7_init_12 rfl (lv_at hl 0 rfl) ?_
  refine lv_bipush (v := 6) hx hb dX7_init_13 (by decide) ?_
  refine nx_I hx hb (hts _ (uc_in _ q_a151)) hK hP hD hS hA (n := 6) (N' := 6) (by decide) (by decide) (Nat.le_of_ble_eq_true rfl) (Nat.le_of_ble_eq_true rfl) (Nat.le_of_ble_eq_true rfl) dX7_init_15 (fun q3 H hP hD hS => ?_)
  obtain ⟨R4, eR4⟩ : ∃ RR : va_W, RR = R2 ++ [(q3, .inl (C 1, 6, .inl (fun _ => 0)))] := ⟨_, rfl⟩
  have hP : va_P D vwCl ((a, .inr (7, [.int 0, .int 0, .int 0, .int 0, .int 0, .int 0, .int 0, .int 0, .ref q1, .null, .null, .null, .null, .null, .null, .null])) :: R4) H := by rw [eR4]; exact hP
  have hD : va_D AA ((a, .inr (7, [.int 0, .int 0, .int 0, .int 0, .int 0, .int 0, .int 0, .int 0, .ref q1, .null, .null, .null, .null, .null, .null, .null])) :: R4) := by rw [eR4]; exact hD
  refine W.cs (cells' := 2) (slots' := 12) rfl rfl ?_
  refine va_putF (D := D) (ci := 7) (v := .ref q3) (ty := .array .int) (C := RX7) (T := TX7) (N := 16) hx hb hts (fun w h => uc_in w (inX7 w h)) tyX7 tyX7_ok nmX7 hown hK hP hD hS 0 rfl rfl 9 (by decide) (hts _ (uc_in _ q_f99)) (fun _ h9 => h9) rfl hnm rfl (by decide +kernel) rfl rfl (Nat.le_of_ble_eq_true rfl) dX7_init_17 (fun H locs hP hD hS => ?_)
  have hP : va_P D vwCl ((a, .inr (7, [.int 0, .int 0, .int 0, .int 0, .int 0, .int 0, .int 0, .int 0, .ref q1, .ref q3, .null, .null, .null, .null, .null, .null])) :: R4) H := hP
  have hD : va_D AA ((a, .inr (7, [.int 0, .int 0, .int 0, .int 0, .int 0, .int 0, .int 0, .int 0, .ref q1, .ref q3, .null, .null, .null, .null, .null, .null])) :: R4) := hD
  refine lv_aload_n hx hb dX7_init_20 rfl (lv_at hl 0 rfl) ?_
  refine lv_bipush (v := 6) hx hb dX7_init_21 (by decide) ?_
  refine nx_I hx hb (hts _ (uc_in _ q_a151)) hK hP hD hS hA (n := 6) (N' := 6) (by decide) (by decide) (Nat.le_of_ble_eq_true rfl) (Nat.le_of_ble_eq_true rfl) (Nat.le_of_ble_eq_true rfl) dX7_init_23 (fun q5 H hP hD hS => ?_)
  obtain ⟨R6, eR6⟩ : ∃ RR : va_W, RR = R4 ++ [(q5, .inl (C 1, 6, .inl (fun _ => 0)))] := ⟨_, rfl⟩
  have hP : va_P D vwCl ((a, .inr (7, [.int 0, .int 0, .int 0, .int 0, .int 0, .int 0, .int 0, .int 0, .ref q1, .ref q3, .null, .null, .null, .null, .null, .null])) :: R6) H := by rw [eR6]; exact hP
  have hD : va_D AA ((a, .inr (7, [.int 0, .int 0, .int 0, .int 0, .int 0, .int 0, .int 0, .int 0, .ref q1, .ref q3, .null, .null, .null, .null, .null, .null])) :: R6) := by rw [eR6]; exact hD
  refine W.cs (cells' := 3) (slots' := 18) rfl rfl ?_
  refine va_putF (D := D) (ci := 7) (v := .ref q5) (ty := .array .int) (C := RX7) (T := TX7) (N := 16) hx hb hts (fun w h => uc_in w (inX7 w h)) tyX7 tyX7_ok nmX7 hown hK hP hD hS 0 rfl rfl 10 (by decide) (hts _ (uc_in _ q_f103)) (fun _ h9 => h9) rfl hnm rfl (by decide +kernel) rfl rfl (Nat.le_of_ble_eq_true rfl) dX7_init_25 (fun H locs hP hD hS => ?_)
  have hP : va_P D vwCl ((a, .inr (7, [.int 0, .int 0, .int 0, .int 0, .int 0, .int 0, .int 0, .int 0, .ref q1, .ref q3, .ref q5, .null, .null, .null, .null, .null])) :: R6) H := hP
  have hD : va_D AA ((a, .inr (7, [.int 0, .int 0, .int 0, .int 0, .int 0, .int 0, .int 0, .int 0, .ref q1, .ref q3, .ref q5, .null, .null, .null, .null, .null])) :: R6) := hD
  refine lv_aload_n hx hb dX7_init_28 rfl (lv_at hl 0 rfl) ?_
  refine lv_bipush (v := 6) hx hb dX7_init_29 (by decide) ?_
  refine nx_I hx hb (hts _ (uc_in _ q_a151)) hK hP hD hS hA (n := 6) (N' := 6) (by decide) (by decide) (Nat.le_of_ble_eq_true rfl) (Nat.le_of_ble_eq_true rfl) (Nat.le_of_ble_eq_true rfl) dX7_init_31 (fun q7 H hP hD hS => ?_)
  obtain ⟨R8, eR8⟩ : ∃ RR : va_W, RR = R6 ++ [(q7, .inl (C 1, 6, .inl (fun _ => 0)))] := ⟨_, rfl⟩
  have hP : va_P D vwCl ((a, .inr (7, [.int 0, .int 0, .int 0, .int 0, .int 0, .int 0, .int 0, .int 0, .ref q1, .ref q3, .ref q5, .null, .null, .null, .null, .null])) :: R8) H := by rw [eR8]; exact hP
  have hD : va_D AA ((a, .inr (7, [.int 0, .int 0, .int 0, .int 0, .int 0, .int 0, .int 0, .int 0, .ref q1, .ref q3, .ref q5, .null, .null, .null, .null, .null])) :: R8) := by rw [eR8]; exact hD
  refine W.cs (cells' := 4) (slots' := 24) rfl rfl ?_
  refine va_putF (D := D) (ci := 7) (v := .ref q7) (ty := .array .int) (C := RX7) (T := TX7) (N := 16) hx hb hts (fun w h => uc_in w (inX7 w h)) tyX7 tyX7_ok nmX7 hown hK hP hD hS 0 rfl rfl 11 (by decide) (hts _ (uc_in _ q_f107)) (fun _ h9 => h9) rfl hnm rfl (by decide +kernel) rfl rfl (Nat.le_of_ble_eq_true rfl) dX7_init_33 (fun H locs hP hD hS => ?_)
  have hP : va_P D vwCl ((a, .inr (7, [.int 0, .int 0, .int 0, .int 0, .int 0, .int 0, .int 0, .int 0, .ref q1, .ref q3, .ref q5, .ref q7, .null, .null, .null, .null])) :: R8) H := hP
  have hD : va_D AA ((a, .inr (7, [.int 0, .int 0, .int 0, .int 0, .int 0, .int 0, .int 0, .int 0, .ref q1, .ref q3, .ref q5, .ref q7, .null, .null, .null, .null])) :: R8) := hD
  refine lv_aload_n hx hb dX7_init_36 rfl (lv_at hl 0 rfl) ?_
  refine lv_bipush (v := 6) hx hb dX7_init_37 (by decide) ?_
  refine nx_I hx hb (hts _ (uc_in _ q_a151)) hK hP hD hS hA (n := 6) (N' := 6) (by decide) (by decide) (Nat.le_of_ble_eq_true rfl) (Nat.le_of_ble_eq_true rfl) (Nat.le_of_ble_eq_true rfl) dX7_init_39 (fun q9 H hP hD hS => ?_)
  obtain ⟨R10, eR10⟩ : ∃ RR : va_W, RR = R8 ++ [(q9, .inl (C 1, 6, .inl (fun _ => 0)))] := ⟨_, rfl⟩
  have hP : va_P D vwCl ((a, .inr (7, [.int 0, .int 0, .int 0, .int 0, .int 0, .int 0, .int 0, .int 0, .ref q1, .ref q3, .ref q5, .ref q7, .null, .null, .null, .null])) :: R10) H := by rw [eR10]; exact hP
  have hD : va_D AA ((a, .inr (7, [.int 0, .int 0, .int 0, .int 0, .int 0, .int 0, .int 0, .int 0, .ref q1, .ref q3, .ref q5, .ref q7, .null, .null, .null, .null])) :: R10) := by rw [eR10]; exact hD
  refine W.cs (cells' := 5) (slots' := 30) rfl rfl ?_
  refine va_putF (D := D) (ci := 7) (v := .ref q9) (ty := .array .int) (C := RX7) (T := TX7) (N := 16) hx hb hts (fun w h => uc_in w (inX7 w h)) tyX7 tyX7_ok nmX7 hown hK hP hD hS 0 rfl rfl 12 (by decide) (hts _ (uc_in _ q_f111)) (fun _ h9 => h9) rfl hnm rfl (by decide +kernel) rfl rfl (Nat.le_of_ble_eq_true rfl) dX7_init_41 (fun H locs hP hD hS => ?_)
  have hP : va_P D vwCl ((a, .inr (7, [.int 0, .int 0, .int 0, .int 0, .int 0, .int 0, .int 0, .int 0, .ref q1, .ref q3, .ref q5, .ref q7, .ref q9, .null, .null, .null])) :: R10) H := hP
  have hD : va_D AA ((a, .inr (7, [.int 0, .int 0, .int 0, .int 0, .int 0, .int 0, .int 0, .int 0, .ref q1, .ref q3, .ref q5, .ref q7, .ref q9, .null, .null, .null])) :: R10) := hD
  refine lv_aload_n hx hb dX7_init_44 rfl (lv_at hl 0 rfl) ?_
  refine lv_bipush (v := 40) hx hb dX7_init_45 (by decide) ?_
  refine nx_I hx hb (hts _ (uc_in _ q_a151)) hK hP hD hS hA (n := 40) (N' := 40) (by decide) (by decide) (Nat.le_of_ble_eq_true rfl) (Nat.le_of_ble_eq_true rfl) (Nat.le_of_ble_eq_true rfl) dX7_init_47 (fun q11 H hP hD hS => ?_)
  obtain ⟨R12, eR12⟩ : ∃ RR : va_W, RR = R10 ++ [(q11, .inl (C 1, 40, .inl (fun _ => 0)))] := ⟨_, rfl⟩
  have hP : va_P D vwCl ((a, .inr (7, [.int 0, .int 0, .int 0, .int 0, .int 0, .int 0, .int 0, .int 0, .ref q1, .ref q3, .ref q5, .ref q7, .ref q9, .null, .null, .null])) :: R12) H := by rw [eR12]; exact hP
  have hD : va_D AA ((a, .inr (7, [.int 0, .int 0, .int 0, .int 0, .int 0, .int 0, .int 0, .int 0, .ref q1, .ref q3, .ref q5, .ref q7, .ref q9, .null, .null, .null])) :: R12) := by rw [eR12]; exact hD
  refine W.cs (cells' := 6) (slots' := 70) rfl rfl ?_
  refine va_putF (D := D) (ci := 7) (v := .ref q11) (ty := .array .int) (C := RX7) (T := TX7) (N := 16) hx hb hts (fun w h => uc_in w (inX7 w h)) tyX7 tyX7_ok nmX7 hown hK hP hD hS 0 rfl rfl 13 (by decide) (hts _ (uc_in _ q_f115)) (fun _ h9 => h9) rfl hnm rfl (by decide +kernel) rfl rfl (Nat.le_of_ble_eq_true rfl) dX7_init_49 (fun H locs hP hD hS => ?_)
  have hP : va_P D vwCl ((a, .inr (7, [.int 0, .int 0, .int 0, .int 0, .int 0, .int 0, .int 0, .int 0, .ref q1, .ref q3, .ref q5, .ref q7, .ref q9, .ref q11, .null, .null])) :: R12) H := hP
  have hD : va_D AA ((a, .inr (7, [.int 0, .int 0, .int 0, .int 0, .int 0, .int 0, .int 0, .int 0, .ref q1, .ref q3, .ref q5, .ref q7, .ref q9, .ref q11, .null, .null])) :: R12) := hD
  refine lv_aload_n hx hb dX7_init_52 rfl (lv_at hl 0 rfl) ?_
  refine lv_bipush (v := 40) hx hb dX7_init_53 (by decide) ?_
  refine nx_I hx hb (hts _ (uc_in _ q_a151)) hK hP hD hS hA (n := 40) (N' := 40) (by decide) (by decide) (Nat.le_of_ble_eq_true rfl) (Nat.le_of_ble_eq_true rfl) (Nat.le_of_ble_eq_true rfl) dX7_init_55 (fun q13 H hP hD hS => ?_)
  obtain ⟨R14, eR14⟩ : ∃ RR : va_W, RR = R12 ++ [(q13, .inl (C 1, 40, .inl (fun _ => 0)))] := ⟨_, rfl⟩
  have hP : va_P D vwCl ((a, .inr (7, [.int 0, .int 0, .int 0, .int 0, .int 0, .int 0, .int 0, .int 0, .ref q1, .ref q3, .ref q5, .ref q7, .ref q9, .ref q11, .null, .null])) :: R14) H := by rw [eR14]; exact hP
  have hD : va_D AA ((a, .inr (7, [.int 0, .int 0, .int 0, .int 0, .int 0, .int 0, .int 0, .int 0, .ref q1, .ref q3, .ref q5, .ref q7, .ref q9, .ref q11, .null, .null])) :: R14) := by rw [eR14]; exact hD
  refine W.cs (cells' := 7) (slots' := 110) rfl rfl ?_
  refine va_putF (D := D) (ci := 7) (v := .ref q13) (ty := .array .int) (C := RX7) (T := TX7) (N := 16) hx hb hts (fun w h => uc_in w (inX7 w h)) tyX7 tyX7_ok nmX7 hown hK hP hD hS 0 rfl rfl 14 (by decide) (hts _ (uc_in _ q_f116)) (fun _ h9 => h9) rfl hnm rfl (by decide +kernel) rfl rfl (Nat.le_of_ble_eq_true rfl) dX7_init_57 (fun H locs hP hD hS => ?_)
  have hP : va_P D vwCl ((a, .inr (7, [.int 0, .int 0, .int 0, .int 0, .int 0, .int 0, .int 0, .int 0, .ref q1, .ref q3, .ref q5, .ref q7, .ref q9, .ref q11, .ref q13, .null])) :: R14) H := hP
  have hD : va_D AA ((a, .inr (7, [.int 0, .int 0, .int 0, .int 0, .int 0, .int 0, .int 0, .int 0, .ref q1, .ref q3, .ref q5, .ref q7, .ref q9, .ref q11, .ref q13, .null])) :: R14) := hD
  refine lv_aload_n hx hb dX7_init_60 rfl (lv_at hl 0 rfl) ?_
  refine lv_bipush (v := 40) hx hb dX7_init_61 (by decide) ?_
  refine nx_I hx hb (hts _ (uc_in _ q_a151)) hK hP hD hS hA (n := 40) (N' := 40) (by decide) (by decide) (Nat.le_of_ble_eq_true rfl) (Nat.le_of_ble_eq_true rfl) (Nat.le_of_ble_eq_true rfl) dX7_init_63 (fun q15 H hP hD hS => ?_)
  obtain ⟨R16, eR16⟩ : ∃ RR : va_W, RR = R14 ++ [(q15, .inl (C 1, 40, .inl (fun _ => 0)))] := ⟨_, rfl⟩
  have hP : va_P D vwCl ((a, .inr (7, [.int 0, .int 0, .int 0, .int 0, .int 0, .int 0, .int 0, .int 0, .ref q1, .ref q3, .ref q5, .ref q7, .ref q9, .ref q11, .ref q13, .null])) :: R16) H := by rw [eR16]; exact hP
  have hD : va_D AA ((a, .inr (7, [.int 0, .int 0, .int 0, .int 0, .int 0, .int 0, .int 0, .int 0, .ref q1, .ref q3, .ref q5, .ref q7, .ref q9, .ref q11, .ref q13, .null])) :: R16) := by rw [eR16]; exact hD
  refine W.cs (cells' := 8) (slots' := 150) rfl rfl ?_
  refine va_putF (D := D) (ci := 7) (v := .ref q15) (ty := .array .int) (C := RX7) (T := TX7) (N := 16) hx hb hts (fun w h => uc_in w (inX7 w h)) tyX7 tyX7_ok nmX7 hown hK hP hD hS 0 rfl rfl 15 (by decide) (hts _ (uc_in _ q_f117)) (fun _ h9 => h9) rfl hnm rfl (by decide +kernel) rfl rfl (Nat.le_of_ble_eq_true rfl) dX7_init_65 (fun H locs hP hD hS => ?_)
  have hP : va_P D vwCl ((a, .inr (7, [.int 0, .int 0, .int 0, .int 0, .int 0, .int 0, .int 0, .int 0, .ref q1, .ref q3, .ref q5, .ref q7, .ref q9, .ref q11, .ref q13, .ref q15])) :: R16) H := hP
  have hD : va_D AA ((a, .inr (7, [.int 0, .int 0, .int 0, .int 0, .int 0, .int 0, .int 0, .int 0, .ref q1, .ref q3, .ref q5, .ref q7, .ref q9, .ref q11, .ref q13, .ref q15])) :: R16) := hD
  have hP9 : va_P D vwCl (wX7 C a (fun i => ([q1, q3, q5, q7, q9, q11, q13, q15] : List Nat).getD i 0)) H := by rw [eR16, eR14, eR12, eR10, eR8, eR6, eR4, eR2] at hP; exact hP
  have hD9 : va_D (va_A [(a, .inr (7, [.int 0, .int 0, .int 0, .int 0, .int 0, .int 0, .int 0, .int 0, .null, .null, .null, .null, .null, .null, .null, .null]))] s.heap.size) (wX7 C a (fun i => ([q1, q3, q5, q7, q9, q11, q13, q15] : List Nat).getD i 0)) := by rw [← hAe]; rw [eR16, eR14, eR12, eR10, eR8, eR6, eR4, eR2] at hD; exact hD
  have hS9 : va_S (va_A [(a, .inr (7, [.int 0, .int 0, .int 0, .int 0, .int 0, .int 0, .int 0, .int 0, .null, .null, .null, .null, .null, .null, .null, .null]))] s.heap.size) s.heap H locs := by rw [← hAe]; exact hS
  exact W.vret hx hb hr (fun t ht hW => ⟨⟨(fun i => ([q1, q3, q5, q7, q9, q11, q13, q15] : List Nat).getD i 0), rfl, trivial, by rw [ht]; exact hP9, va_K.moved hW.alike hK, hD9⟩, hS9.F ht⟩) hS9.2.2 dX7_init_68
def wX5 (C : Nat → ClassId) (a : Nat) (g : Nat → Nat) : va_W := (a, .inr (5, [.int 0, .int 0, .ref (g 0), .ref (g 1)])) :: (mmB C (g 0) 7 6 ++ [((g 1), .inl (C 1, 7, .inl (fun _ => 0)))])
set_option maxHeartbeats 4000000 in
set_option maxRecDepth 100000 in
theorem i_X5 (l : Launch) (D : va_G) (C : Nat → ClassId) (a : Nat) (sz : Nat) : Met l yX5_init (uc yX5_init cX5_init 1 none) (rmL 1 9 56) (va_Pc [.ref a] (MPre D (tyl C) [(a, .inr (5, [.int 0, .int 0, .null, .null]))] sz)) (va_Qv (fun (g : Nat → Nat) => True) (MB D (tyl C) [(a, .inr (5, [.int 0, .int 0, .null, .null]))] sz (fun g => wX5 C a g)) (va_A [(a, .inr (5, [.int 0, .int 0, .null, .null]))] sz)) 9 56 (va_A [(a, .inr (5, [.int 0, .int 0, .null, .null]))] sz) := by
  refine pm (by decide) (Nat.le_of_ble_eq_true rfl) ?_
  intro p e s m below meth c ls hx hb hr hml hown hlk hnm hts hv hl
  have hown : s.vm.findClass RX5 = some m.cls := hown
  have hl : lv_has ls 1 [(0, .ref a)] := hl
  obtain ⟨hsz, hP, hK, hD0, hE⟩ := hv
  subst hsz
  have hD := hD0.self (sz := s.heap.size)
  obtain ⟨AA, hAe⟩ : ∃ AA, AA = va_A [(a, .inr (5, [.int 0, .int 0, .null, .null]))] s.heap.size := ⟨_, rfl⟩
  rw [← hAe] at hD
  have hA : ∀ q : Nat, s.heap.size ≤ q → AA q := fun q h => by rw [hAe]; exact Or.inr h
  have hS : va_S AA s.heap s.heap [] := va_S.rf
  obtain ⟨-, hAOT, hAOR, hAOI⟩ := id hE
  have hP : va_P D vwCl ((a, .inr (5, [.int 0, .int 0, .null, .null])) :: ([] : va_W)) s.heap := hP
  have hD : va_D AA ((a, .inr (5, [.int 0, .int 0, .null, .null])) :: ([] : va_W)) := hD
  refine lv_aload_n hx hb dX5_init_0 rfl (lv_at hl 0 rfl) ?_
  refine W.objInit hx hb hown (hts _ (uc_in _ q_m158)) (hts _ (uc_in _ q_n25)) (hts _ (uc_in _ q_obj)) rfl (by rw [hml]; exact hl.1) rfl dX5_init_1 (Nat.le_of_ble_eq_true rfl) (Nat.le_of_ble_eq_true rfl) ?_
  refine W.eq (g2 := F0 m 4 ls []) rfl ?_
  refine lv_aload_n hx hb dX5_init_4 rfl (lv_at hl 0 rfl) ?_
  refine lv_bipush (v := 7) hx hb dX5_init_5 (by decide) ?_
  refine lv_bipush (v := 6) hx hb dX5_init_7 (by decide) ?_
  refine nx_M hx hb hown (hts _ (uc_in _ q_l159)) hAOI hK hP hD hS hA (n := 7) (k := 6) (N' := 7) (K' := 6) (by decide) (by decide) (by decide) (by decide) (Nat.le_of_ble_eq_true rfl) (Nat.le_of_ble_eq_true rfl) (Nat.le_of_ble_eq_true rfl) dX5_init_9 (fun q1 H locs hP hD hS => ?_)
  obtain ⟨R2, eR2⟩ : ∃ RR : va_W, RR = ([] : va_W) ++ mmB C q1 7 6 := ⟨_, rfl⟩
  have hP : va_P D vwCl ((a, .inr (5, [.int 0, .int 0, .null, .null])) :: R2) H := by rw [eR2]; exact hP
  have hD : va_D AA ((a, .inr (5, [.int 0, .int 0, .null, .null])) :: R2) := by rw [eR2]; exact hD
  refine W.cs (cells' := 8) (slots' := 49) rfl rfl ?_
  refine va_putF (D := D) (ci := 5) (v := .ref q1) (ty := .array (.array .int)) (C := RX5) (T := TX5) (N := 4) hx hb hts (fun w h => uc_in w (inX5 w h)) tyX5 tyX5_ok nmX5 hown hK hP hD hS 0 rfl rfl 2 (by decide) (hts _ (uc_in _ q_f168)) (fun _ h9 => h9) rfl hnm rfl (by decide +kernel) rfl rfl (Nat.le_of_ble_eq_true rfl) dX5_init_13 (fun H locs hP hD hS => ?_)
  have hP : va_P D vwCl ((a, .inr (5, [.int 0, .int 0, .ref q1, .null])) :: R2) H := hP
  have hD : va_D AA ((a, .inr (5, [.int 0, .int 0, .ref q1, .null])) :: R2) := hD
  refine lv_aload_n hx hb dX5_init_16 rfl (lv_at hl 0 rfl) ?_
  refine lv_bipush (v := 7) hx hb dX5_init_17 (by decide) ?_
  refine nx_I hx hb (hts _ (uc_in _ q_a151)) hK hP hD hS hA (n := 7) (N' := 7) (by decide) (by decide) (Nat.le_of_ble_eq_true rfl) (Nat.le_of_ble_eq_true rfl) (Nat.le_of_ble_eq_true rfl) dX5_init_19 (fun q3 H hP hD hS => ?_)
  obtain ⟨R4, eR4⟩ : ∃ RR : va_W, RR = R2 ++ [(q3, .inl (C 1, 7, .inl (fun _ => 0)))] := ⟨_, rfl⟩
  have hP : va_P D vwCl ((a, .inr (5, [.int 0, .int 0, .ref q1, .null])) :: R4) H := by rw [eR4]; exact hP
  have hD : va_D AA ((a, .inr (5, [.int 0, .int 0, .ref q1, .null])) :: R4) := by rw [eR4]; exact hD
  refine W.cs (cells' := 9) (slots' := 56) rfl rfl ?_
  refine va_putF (D := D) (ci := 5) (v := .ref q3) (ty := .array .int) (C := RX5) (T := TX5) (N := 4) hx hb hts (fun w h => uc_in w (inX5 w h)) tyX5 tyX5_ok nmX5 hown hK hP hD hS 0 rfl rfl 3 (by decide) (hts _ (uc_in _ q_f172)) (fun _ h9 => h9) rfl hnm rfl (by decide +kernel) rfl rfl (Nat.le_of_ble_eq_true rfl) dX5_init_21 (fun H locs hP hD hS => ?_)
  have hP : va_P D vwCl ((a, .inr (5, [.int 0, .int 0, .ref q1, .ref q3])) :: R4) H := hP
  have hD : va_D AA ((a, .inr (5, [.int 0, .int 0, .ref q1, .ref q3])) :: R4) := hD
  have hP9 : va_P D vwCl (wX5 C a (fun i => ([q1, q3] : List Nat).getD i 0)) H := by rw [eR4, eR2] at hP; exact hP
  have hD9 : va_D (va_A [(a, .inr (5, [.int 0, .int 0, .null, .null]))] s.heap.size) (wX5 C a (fun i => ([q1, q3] : List Nat).getD i 0)) := by rw [← hAe]; rw [eR4, eR2] at hD; exact hD
  have hS9 : va_S (va_A [(a, .inr (5, [.int 0, .int 0, .null, .null]))] s.heap.size) s.heap H locs := by rw [← hAe]; exact hS
  exact W.vret hx hb hr (fun t ht hW => ⟨⟨(fun i => ([q1, q3] : List Nat).getD i 0), rfl, trivial, by rw [ht]; exact hP9, va_K.moved hW.alike hK, hD9⟩, hS9.F ht⟩) hS9.2.2 dX5_init_24
def wX3 (C : Nat → ClassId) (a : Nat) (g : Nat → Nat) : va_W := (a, .inr (3, [.int (-1), .int 0, .ref (g 0)])) :: ([((g 0), .inl (C 2, 60, .inr (.inl (fun _ => 0))))])
set_option maxHeartbeats 4000000 in
set_option maxRecDepth 100000 in
theorem i_X3 (l : Launch) (D : va_G) (C : Nat → ClassId) (a : Nat) (sz : Nat) : Met l yX3_init (uc yX3_init cX3_init 1 none) (rmL 1 1 60) (va_Pc [.ref a] (MPre D (tyl C) [(a, .inr (3, [.int 0, .int 0, .null]))] sz)) (va_Qv (fun (g : Nat → Nat) => True) (MB D (tyl C) [(a, .inr (3, [.int 0, .int 0, .null]))] sz (fun g => wX3 C a g)) (va_A [(a, .inr (3, [.int 0, .int 0, .null]))] sz)) 1 60 (va_A [(a, .inr (3, [.int 0, .int 0, .null]))] sz) := by
  refine pm (by decide) (Nat.le_of_ble_eq_true rfl) ?_
  intro p e s m below meth c ls hx hb hr hml hown hlk hnm hts hv hl
  have hown : s.vm.findClass RX3 = some m.cls := hown
  have hl : lv_has ls 1 [(0, .ref a)] := hl
  obtain ⟨hsz, hP, hK, hD0, hE⟩ := hv
  subst hsz
  have hD := hD0.self (sz := s.heap.size)
  obtain ⟨AA, hAe⟩ : ∃ AA, AA = va_A [(a, .inr (3, [.int 0, .int 0, .null]))] s.heap.size := ⟨_, rfl⟩
  rw [← hAe] at hD
  have hA : ∀ q : Nat, s.heap.size ≤ q → AA q := fun q h => by rw [hAe]; exact Or.inr h
  have hS : va_S AA s.heap s.heap [] := va_S.rf
  obtain ⟨-, hAOT, hAOR, hAOI⟩ := id hE
  have hP : va_P D vwCl ((a, .inr (3, [.int 0, .int 0, .null])) :: ([] : va_W)) s.heap := hP
  have hD : va_D AA ((a, .inr (3, [.int 0, .int 0, .null])) :: ([] : va_W)) := hD
  refine lv_aload_n hx hb dX3_init_0 rfl (lv_at hl 0 rfl) ?_
  refine W.objInit hx hb hown (hts _ (uc_in _ q_m191)) (hts _ (uc_in _ q_n25)) (hts _ (uc_in _ q_obj)) rfl (by rw [hml]; exact hl.1) rfl dX3_init_1 (Nat.le_of_ble_eq_true rfl) (Nat.le_of_ble_eq_true rfl) ?_
  refine W.eq (g2 := F0 m 4 ls []) rfl ?_
  refine lv_aload_n hx hb dX3_init_4 rfl (lv_at hl 0 rfl) ?_
  refine lv_iconst (v := (-1)) hx hb dX3_init_5 (by decide) ?_
  refine va_put (D := D) (ci := 3) (v := .int (-1)) (ty := .int) (C := RX3) (T := TX3) (N := 3) hx hb hts (fun w h => uc_in w (inX3 w h)) tyX3 tyX3_ok nmX3 hown hK hP hD hS 0 rfl rfl 0 (by decide) (hts _ (uc_in _ q_f192)) (fun _ h9 => h9) rfl (by decide +kernel) rfl rfl (Nat.le_of_ble_eq_true rfl) dX3_init_6 (fun H locs hP hD hS => ?_)
  have hP : va_P D vwCl ((a, .inr (3, [.int (-1), .int 0, .null])) :: ([] : va_W)) H := hP
  have hD : va_D AA ((a, .inr (3, [.int (-1), .int 0, .null])) :: ([] : va_W)) := hD
  refine lv_aload_n hx hb dX3_init_9 rfl (lv_at hl 0 rfl) ?_
  refine lv_bipush (v := 60) hx hb dX3_init_10 (by decide) ?_
  refine nx_J hx hb (hts _ (uc_in _ q_a209)) hK hP hD hS hA (n := 60) (N' := 60) (by decide) (by decide) (Nat.le_of_ble_eq_true rfl) (Nat.le_of_ble_eq_true rfl) (Nat.le_of_ble_eq_true rfl) dX3_init_12 (fun q1 H hP hD hS => ?_)
  obtain ⟨R2, eR2⟩ : ∃ RR : va_W, RR = ([] : va_W) ++ [(q1, .inl (C 2, 60, .inr (.inl (fun _ => 0))))] := ⟨_, rfl⟩
  have hP : va_P D vwCl ((a, .inr (3, [.int (-1), .int 0, .null])) :: R2) H := by rw [eR2]; exact hP
  have hD : va_D AA ((a, .inr (3, [.int (-1), .int 0, .null])) :: R2) := by rw [eR2]; exact hD
  refine W.cs (cells' := 1) (slots' := 60) rfl rfl ?_
  refine va_putF (D := D) (ci := 3) (v := .ref q1) (ty := .array .long) (C := RX3) (T := TX3) (N := 3) hx hb hts (fun w h => uc_in w (inX3 w h)) tyX3 tyX3_ok nmX3 hown hK hP hD hS 0 rfl rfl 2 (by decide) (hts _ (uc_in _ q_f198)) (fun _ h9 => h9) rfl hnm rfl (by decide +kernel) rfl rfl (Nat.le_of_ble_eq_true rfl) dX3_init_14 (fun H locs hP hD hS => ?_)
  have hP : va_P D vwCl ((a, .inr (3, [.int (-1), .int 0, .ref q1])) :: R2) H := hP
  have hD : va_D AA ((a, .inr (3, [.int (-1), .int 0, .ref q1])) :: R2) := hD
  have hP9 : va_P D vwCl (wX3 C a (fun i => ([q1] : List Nat).getD i 0)) H := by rw [eR2] at hP; exact hP
  have hD9 : va_D (va_A [(a, .inr (3, [.int 0, .int 0, .null]))] s.heap.size) (wX3 C a (fun i => ([q1] : List Nat).getD i 0)) := by rw [← hAe]; rw [eR2] at hD; exact hD
  have hS9 : va_S (va_A [(a, .inr (3, [.int 0, .int 0, .null]))] s.heap.size) s.heap H locs := by rw [← hAe]; exact hS
  exact W.vret hx hb hr (fun t ht hW => ⟨⟨(fun i => ([q1] : List Nat).getD i 0), rfl, trivial, by rw [ht]; exact hP9, va_K.moved hW.alike hK, hD9⟩, hS9.F ht⟩) hS9.2.2 dX3_init_17
def wX1 (C : Nat → ClassId) (a : Nat) (g : Nat → Nat) : va_W := (a, .inr (1, [.int 0, .int 0, .int 0, .int 0, .int 0, .int 0, .int 0, .int 0, .ref (g 0), .ref (g 1), .ref (g 2), .ref (g 3), .ref (g 4), .ref (g 5), .ref (g 6)])) :: ([((g 0), .inl (C 1, 7, .inl (fun _ => 0)))] ++ mmB C (g 1) 49 6 ++ mmB C (g 2) 21 6 ++ [((g 3), .inl (C 1, 7, .inl (fun _ => 0)))] ++ [((g 4), .inl (C 1, 7, .inl (fun _ => 0)))] ++ [((g 5), .inl (C 1, 7, .inl (fun _ => 0)))] ++ [((g 6), .inl (C 1, 7, .inl (fun _ => 0)))])
set_option maxHeartbeats 4000000 in
set_option maxRecDepth 100000 in
theorem i_X1 (l : Launch) (D : va_G) (C : Nat → ClassId) (a : Nat) (sz : Nat) : Met l yX1_init (uc yX1_init cX1_init 1 none) (rmL 1 77 525) (va_Pc [.ref a] (MPre D (tyl C) [(a, .inr (1, [.int 0, .int 0, .int 0, .int 0, .int 0, .int 0, .int 0, .int 0, .null, .null, .null, .null, .null, .null, .null]))] sz)) (va_Qv (fun (g : Nat → Nat) => True) (MB D (tyl C) [(a, .inr (1, [.int 0, .int 0, .int 0, .int 0, .int 0, .int 0, .int 0, .int 0, .null, .null, .null, .null, .null, .null, .null]))] sz (fun g => wX1 C a g)) (va_A [(a, .inr (1, [.int 0, .int 0, .int 0, .int 0, .int 0, .int 0, .int 0, .int 0, .null, .null, .null, .null, .null, .null, .null]))] sz)) 77 525 (va_A [(a, .inr (1, [.int 0, .int 0, .int 0, .int 0, .int 0, .int 0, .int 0, .int 0, .null, .null, .null, .null, .null, .null, .null]))] sz) := by
  refine pm (by decide) (Nat.le_of_ble_eq_true rfl) ?_
  intro p e s m below meth c ls hx hb hr hml hown hlk hnm hts hv hl
  have hown : s.vm.findClass RX1 = some m.cls := hown
  have hl : lv_has ls 1 [(0, .ref a)] := hl
  obtain ⟨hsz, hP, hK, hD0, hE⟩ := hv
  subst hsz
  have hD := hD0.self (sz := s.heap.size)
  obtain ⟨AA, hAe⟩ : ∃ AA, AA = va_A [(a, .inr (1, [.int 0, .int 0, .int 0, .int 0, .int 0, .int 0, .int 0, .int 0, .null, .null, .null, .null, .null, .null, .null]))] s.heap.size := ⟨_, rfl⟩
  rw [← hAe] at hD
  have hA : ∀ q : Nat, s.heap.size ≤ q → AA q := fun q h => by rw [hAe]; exact Or.inr h
  have hS : va_S AA s.heap s.heap [] := va_S.rf
  obtain ⟨-, hAOT, hAOR, hAOI⟩ := id hE
  have hP : va_P D vwCl ((a, .inr (1, [.int 0, .int 0, .int 0, .int 0, .int 0, .int 0, .int 0, .int 0, .null, .null, .null, .null, .null, .null, .null])) :: ([] : va_W)) s.heap := hP
  have hD : va_D AA ((a, .inr (1, [.int 0, .int 0, .int 0, .int 0, .int 0, .int 0, .int 0, .int 0, .null, .null, .null, .null, .null, .null, .null])) :: ([] : va_W)) := hD
  refine lv_aload_n hx hb dX1_init_0 rfl (lv_at hl 0 rfl) ?_
  refine W.objInit hx hb hown (hts _ (uc_in _ q_m215)) (hts _ (uc_in _ q_n25)) (hts _ (uc_in _ q_obj)) rfl (by rw [hml]; exact hl.1) rfl dX1_init_1 (Nat.le_of_ble_eq_true rfl) (Nat.le_of_ble_eq_true rfl) ?_
  refine W.eq (g2 := F0 m 4 ls []) rfl ?_
  refine lv_aload_n hx hb dX1_init_4 rfl (lv_at hl 0 rfl) ?_
  refine lv_bipush (v := 7) hx hb dX1_init_5 (by decide) ?_
  refine nx_I hx hb (hts _ (uc_in _ q_a151)) hK hP hD hS hA (n := 7) (N' := 7) (by decide) (by decide) (Nat.le_of_ble_eq_true rfl) (Nat.le_of_ble_eq_true rfl) (Nat.le_of_ble_eq_true rfl) dX1_init_7 (fun q1 H hP hD hS => ?_)
  obtain ⟨R2, eR2⟩ : ∃ RR : va_W, RR = ([] : va_W) ++ [(q1, .inl (C 1, 7, .inl (fun _ => 0)))] := ⟨_, rfl⟩
  have hP : va_P D vwCl ((a, .inr (1, [.int 0, .int 0, .int 0, .int 0, .int 0, .int 0, .int 0, .int 0, .null, .null, .null, .null, .null, .null, .null])) :: R2) H := by rw [eR2]; exact hP
  have hD : va_D AA ((a, .inr (1, [.int 0, .int 0, .int 0, .int 0, .int 0, .int 0, .int 0, .int 0, .null, .null, .null, .null, .null, .null, .null])) :: R2) := by rw [eR2]; exact hD
  refine W.cs (cells' := 1) (slots' := 7) rfl rfl ?_
  refine va_putF (D := D) (ci := 1) (v := .ref q1) (ty := .array .int) (C := RX1) (T := TX1) (N := 15) hx hb hts (fun w h => uc_in w (inX1 w h)) tyX1 tyX1_ok nmX1 hown hK hP hD hS 0 rfl rfl 8 (by decide) (hts _ (uc_in _ q_f228)) (fun _ h9 => h9) rfl hnm rfl (by decide +kernel) rfl rfl (Nat.le_of_ble_eq_true rfl) dX1_init_9 (fun H locs hP hD hS => ?_)
  have hP : va_P D vwCl ((a, .inr (1, [.int 0, .int 0, .int 0, .int 0, .int 0, .int 0, .int 0, .int 0, .ref q1, .null, .null, .null, .null, .null, .null])) :: R2) H := hP
  have hD : va_D AA ((a, .inr (1, [.int 0, .int 0, .int 0, .int 0, .int 0, .int 0, .int 0, .int 0, .ref q1, .null, .null, .null, .null, .null, .null])) :: R2) := hD
  refine lv_aload_n hx hb dX1_init_12 rfl (lv_at hl 0 rfl) ?_
  refine lv_bipush (v := 49) hx hb dX1_init_13 (by decide) ?_
  refine lv_bipush (v := 6) hx hb dX1_init_15 (by decide) ?_
  refine nx_M hx hb hown (hts _ (uc_in _ q_l216)) hAOI hK hP hD hS hA (n := 49) (k := 6) (N' := 49) (K' := 6) (by decide) (by decide) (by decide) (by decide) (Nat.le_of_ble_eq_true rfl) (Nat.le_of_ble_eq_true rfl) (Nat.le_of_ble_eq_true rfl) dX1_init_17 (fun q3 H locs hP hD hS => ?_)
  obtain ⟨R4, eR4⟩ : ∃ RR : va_W, RR = R2 ++ mmB C q3 49 6 := ⟨_, rfl⟩
  have hP : va_P D vwCl ((a, .inr (1, [.int 0, .int 0, .int 0, .int 0, .int 0, .int 0, .int 0, .int 0, .ref q1, .null, .null, .null, .null, .null, .null])) :: R4) H := by rw [eR4]; exact hP
  have hD : va_D AA ((a, .inr (1, [.int 0, .int 0, .int 0, .int 0, .int 0, .int 0, .int 0, .int 0, .ref q1, .null, .null, .null, .null, .null, .null])) :: R4) := by rw [eR4]; exact hD
  refine W.cs (cells' := 51) (slots' := 350) rfl rfl ?_
  refine va_putF (D := D) (ci := 1) (v := .ref q3) (ty := .array (.array .int)) (C := RX1) (T := TX1) (N := 15) hx hb hts (fun w h => uc_in w (inX1 w h)) tyX1 tyX1_ok nmX1 hown hK hP hD hS 0 rfl rfl 9 (by decide) (hts _ (uc_in _ q_f229)) (fun _ h9 => h9) rfl hnm rfl (by decide +kernel) rfl rfl (Nat.le_of_ble_eq_true rfl) dX1_init_21 (fun H locs hP hD hS => ?_)
  have hP : va_P D vwCl ((a, .inr (1, [.int 0, .int 0, .int 0, .int 0, .int 0, .int 0, .int 0, .int 0, .ref q1, .ref q3, .null, .null, .null, .null, .null])) :: R4) H := hP
  have hD : va_D AA ((a, .inr (1, [.int 0, .int 0, .int 0, .int 0, .int 0, .int 0, .int 0, .int 0, .ref q1, .ref q3, .null, .null, .null, .null, .null])) :: R4) := hD
  refine lv_aload_n hx hb dX1_init_24 rfl (lv_at hl 0 rfl) ?_
  refine lv_bipush (v := 21) hx hb dX1_init_25 (by decide) ?_
  refine lv_bipush (v := 6) hx hb dX1_init_27 (by decide) ?_
  refine nx_M hx hb hown (hts _ (uc_in _ q_l216)) hAOI hK hP hD hS hA (n := 21) (k := 6) (N' := 21) (K' := 6) (by decide) (by decide) (by decide) (by decide) (Nat.le_of_ble_eq_true rfl) (Nat.le_of_ble_eq_true rfl) (Nat.le_of_ble_eq_true rfl) dX1_init_29 (fun q5 H locs hP hD hS => ?_)
  obtain ⟨R6, eR6⟩ : ∃ RR : va_W, RR = R4 ++ mmB C q5 21 6 := ⟨_, rfl⟩
  have hP : va_P D vwCl ((a, .inr (1, [.int 0, .int 0, .int 0, .int 0, .int 0, .int 0, .int 0, .int 0, .ref q1, .ref q3, .null, .null, .null, .null, .null])) :: R6) H := by rw [eR6]; exact hP
  have hD : va_D AA ((a, .inr (1, [.int 0, .int 0, .int 0, .int 0, .int 0, .int 0, .int 0, .int 0, .ref q1, .ref q3, .null, .null, .null, .null, .null])) :: R6) := by rw [eR6]; exact hD
  refine W.cs (cells' := 73) (slots' := 497) rfl rfl ?_
  refine va_putF (D := D) (ci := 1) (v := .ref q5) (ty := .array (.array .int)) (C := RX1) (T := TX1) (N := 15) hx hb hts (fun w h => uc_in w (inX1 w h)) tyX1 tyX1_ok nmX1 hown hK hP hD hS 0 rfl rfl 10 (by decide) (hts _ (uc_in _ q_f230)) (fun _ h9 => h9) rfl hnm rfl (by decide +kernel) rfl rfl (Nat.le_of_ble_eq_true rfl) dX1_init_33 (fun H locs hP hD hS => ?_)
  have hP : va_P D vwCl ((a, .inr (1, [.int 0, .int 0, .int 0, .int 0, .int 0, .int 0, .int 0, .int 0, .ref q1, .ref q3, .ref q5, .null, .null, .null, .null])) :: R6) H := hP
  have hD : va_D AA ((a, .inr (1, [.int 0, .int 0, .int 0, .int 0, .int 0, .int 0, .int 0, .int 0, .ref q1, .ref q3, .ref q5, .null, .null, .null, .null])) :: R6) := hD
  refine lv_aload_n hx hb dX1_init_36 rfl (lv_at hl 0 rfl) ?_
  refine lv_bipush (v := 7) hx hb dX1_init_37 (by decide) ?_
  refine nx_I hx hb (hts _ (uc_in _ q_a151)) hK hP hD hS hA (n := 7) (N' := 7) (by decide) (by decide) (Nat.le_of_ble_eq_true rfl) (Nat.le_of_ble_eq_true rfl) (Nat.le_of_ble_eq_true rfl) dX1_init_39 (fun q7 H hP hD hS => ?_)
  obtain ⟨R8, eR8⟩ : ∃ RR : va_W, RR = R6 ++ [(q7, .inl (C 1, 7, .inl (fun _ => 0)))] := ⟨_, rfl⟩
  have hP : va_P D vwCl ((a, .inr (1, [.int 0, .int 0, .int 0, .int 0, .int 0, .int 0, .int 0, .int 0, .ref q1, .ref q3, .ref q5, .null, .null, .null, .null])) :: R8) H := by rw [eR8]; exact hP
  have hD : va_D AA ((a, .inr (1, [.int 0, .int 0, .int 0, .int 0, .int 0, .int 0, .int 0, .int 0, .ref q1, .ref q3, .ref q5, .null, .null, .null, .null])) :: R8) := by rw [eR8]; exact hD
  refine W.cs (cells' := 74) (slots' := 504) rfl rfl ?_
  refine va_putF (D := D) (ci := 1) (v := .ref q7) (ty := .array .int) (C := RX1) (T := TX1) (N := 15) hx hb hts (fun w h => uc_in w (inX1 w h)) tyX1 tyX1_ok nmX1 hown hK hP hD hS 0 rfl rfl 11 (by decide) (hts _ (uc_in _ q_f231)) (fun _ h9 => h9) rfl hnm rfl (by decide +kernel) rfl rfl (Nat.le_of_ble_eq_true rfl) dX1_init_41 (fun H locs hP hD hS => ?_)
  have hP : va_P D vwCl ((a, .inr (1, [.int 0, .int 0, .int 0, .int 0, .int 0, .int 0, .int 0, .int 0, .ref q1, .ref q3, .ref q5, .ref q7, .null, .null, .null])) :: R8) H := hP
  have hD : va_D AA ((a, .inr (1, [.int 0, .int 0, .int 0, .int 0, .int 0, .int 0, .int 0, .int 0, .ref q1, .ref q3, .ref q5, .ref q7, .null, .null, .null])) :: R8) := hD
  refine lv_aload_n hx hb dX1_init_44 rfl (lv_at hl 0 rfl) ?_
  refine lv_bipush (v := 7) hx hb dX1_init_45 (by decide) ?_
  refine nx_I hx hb (hts _ (uc_in _ q_a151)) hK hP hD hS hA (n := 7) (N' := 7) (by decide) (by decide) (Nat.le_of_ble_eq_true rfl) (Nat.le_of_ble_eq_true rfl) (Nat.le_of_ble_eq_true rfl) dX1_init_47 (fun q9 H hP hD hS => ?_)
  obtain ⟨R10, eR10⟩ : ∃ RR : va_W, RR = R8 ++ [(q9, .inl (C 1, 7, .inl (fun _ => 0)))] := ⟨_, rfl⟩
  have hP : va_P D vwCl ((a, .inr (1, [.int 0, .int 0, .int 0, .int 0, .int 0, .int 0, .int 0, .int 0, .ref q1, .ref q3, .ref q5, .ref q7, .null, .null, .null])) :: R10) H := by rw [eR10]; exact hP
  have hD : va_D AA ((a, .inr (1, [.int 0, .int 0, .int 0, .int 0, .int 0, .int 0, .int 0, .int 0, .ref q1, .ref q3, .ref q5, .ref q7, .null, .null, .null])) :: R10) := by rw [eR10]; exact hD
  refine W.cs (cells' := 75) (slots' := 511) rfl rfl ?_
  refine va_putF (D := D) (ci := 1) (v := .ref q9) (ty := .array .int) (C := RX1) (T := TX1) (N := 15) hx hb hts (fun w h => uc_in w (inX1 w h)) tyX1 tyX1_ok nmX1 hown hK hP hD hS 0 rfl rfl 12 (by decide) (hts _ (uc_in _ q_f232)) (fun _ h9 => h9) rfl hnm rfl (by decide +kernel) rfl rfl (Nat.le_of_ble_eq_true rfl) dX1_init_49 (fun H locs hP hD hS => ?_)
  have hP : va_P D vwCl ((a, .inr (1, [.int 0, .int 0, .int 0, .int 0, .int 0, .int 0, .int 0, .int 0, .ref q1, .ref q3, .ref q5, .ref q7, .ref q9, .null, .null])) :: R10) H := hP
  have hD : va_D AA ((a, .inr (1, [.int 0, .int 0, .int 0, .int 0, .int 0, .int 0, .int 0, .int 0, .ref q1, .ref q3, .ref q5, .ref q7, .ref q9, .null, .null])) :: R10) := hD
  refine lv_aload_n hx hb dX1_init_52 rfl (lv_at hl 0 rfl) ?_
  refine lv_bipush (v := 7) hx hb dX1_init_53 (by decide) ?_
  refine nx_I hx hb (hts _ (uc_in _ q_a151)) hK hP hD hS hA (n := 7) (N' := 7) (by decide) (by decide) (Nat.le_of_ble_eq_true rfl) (Nat.le_of_ble_eq_true rfl) (Nat.le_of_ble_eq_true rfl) dX1_init_55 (fun q11 H hP hD hS => ?_)
  obtain ⟨R12, eR12⟩ : ∃ RR : va_W, RR = R10 ++ [(q11, .inl (C 1, 7, .inl (fun _ => 0)))] := ⟨_, rfl⟩
  have hP : va_P D vwCl ((a, .inr (1, [.int 0, .int 0, .int 0, .int 0, .int 0, .int 0, .int 0, .int 0, .ref q1, .ref q3, .ref q5, .ref q7, .ref q9, .null, .null])) :: R12) H := by rw [eR12]; exact hP
  have hD : va_D AA ((a, .inr (1, [.int 0, .int 0, .int 0, .int 0, .int 0, .int 0, .int 0, .int 0, .ref q1, .ref q3, .ref q5, .ref q7, .ref q9, .null, .null])) :: R12) := by rw [eR12]; exact hD
  refine W.cs (cells' := 76) (slots' := 518) rfl rfl ?_
  refine va_putF (D := D) (ci := 1) (v := .ref q11) (ty := .array .int) (C := RX1) (T := TX1) (N := 15) hx hb hts (fun w h => uc_in w (inX1 w h)) tyX1 tyX1_ok nmX1 hown hK hP hD hS 0 rfl rfl 13 (by decide) (hts _ (uc_in _ q_f233)) (fun _ h9 => h9) rfl hnm rfl (by decide +kernel) rfl rfl (Nat.le_of_ble_eq_true rfl) dX1_init_57 (fun H locs hP hD hS => ?_)
  have hP : va_P D vwCl ((a, .inr (1, [.int 0, .int 0, .int 0, .int 0, .int 0, .int 0, .int 0, .int 0, .ref q1, .ref q3, .ref q5, .ref q7, .ref q9, .ref q11, .null])) :: R12) H := hP
  have hD : va_D AA ((a, .inr (1, [.int 0, .int 0, .int 0, .int 0, .int 0, .int 0, .int 0, .int 0, .ref q1, .ref q3, .ref q5, .ref q7, .ref q9, .ref q11, .null])) :: R12) := hD
  refine lv_aload_n hx hb dX1_init_60 rfl (lv_at hl 0 rfl) ?_
  refine lv_bipush (v := 7) hx hb dX1_init_61 (by decide) ?_
  refine nx_I hx hb (hts _ (uc_in _ q_a151)) hK hP hD hS hA (n := 7) (N' := 7) (by decide) (by decide) (Nat.le_of_ble_eq_true rfl) (Nat.le_of_ble_eq_true rfl) (Nat.le_of_ble_eq_true rfl) dX1_init_63 (fun q13 H hP hD hS => ?_)
  obtain ⟨R14, eR14⟩ : ∃ RR : va_W, RR = R12 ++ [(q13, .inl (C 1, 7, .inl (fun _ => 0)))] := ⟨_, rfl⟩
  have hP : va_P D vwCl ((a, .inr (1, [.int 0, .int 0, .int 0, .int 0, .int 0, .int 0, .int 0, .int 0, .ref q1, .ref q3, .ref q5, .ref q7, .ref q9, .ref q11, .null])) :: R14) H := by rw [eR14]; exact hP
  have hD : va_D AA ((a, .inr (1, [.int 0, .int 0, .int 0, .int 0, .int 0, .int 0, .int 0, .int 0, .ref q1, .ref q3, .ref q5, .ref q7, .ref q9, .ref q11, .null])) :: R14) := by rw [eR14]; exact hD
  refine W.cs (cells' := 77) (slots' := 525) rfl rfl ?_
  refine va_putF (D := D) (ci := 1) (v := .ref q13) (ty := .array .int) (C := RX1) (T := TX1) (N := 15) hx hb hts (fun w h => uc_in w (inX1 w h)) tyX1 tyX1_ok nmX1 hown hK hP hD hS 0 rfl rfl 14 (by decide) (hts _ (uc_in _ q_f234)) (fun _ h9 => h9) rfl hnm rfl (by decide +kernel) rfl rfl (Nat.le_of_ble_eq_true rfl) dX1_init_65 (fun H locs hP hD hS => ?_)
  have hP : va_P D vwCl ((a, .inr (1, [.int 0, .int 0, .int 0, .int 0, .int 0, .int 0, .int 0, .int 0, .ref q1, .ref q3, .ref q5, .ref q7, .ref q9, .ref q11, .ref q13])) :: R14) H := hP
  have hD : va_D AA ((a, .inr (1, [.int 0, .int 0, .int 0, .int 0, .int 0, .int 0, .int 0, .int 0, .ref q1, .ref q3, .ref q5, .ref q7, .ref q9, .ref q11, .ref q13])) :: R14) := hD
  have hP9 : va_P D vwCl (wX1 C a (fun i => ([q1, q3, q5, q7, q9, q11, q13] : List Nat).getD i 0)) H := by rw [eR14, eR12, eR10, eR8, eR6, eR4, eR2] at hP; exact hP
  have hD9 : va_D (va_A [(a, .inr (1, [.int 0, .int 0, .int 0, .int 0, .int 0, .int 0, .int 0, .int 0, .null, .null, .null, .null, .null, .null, .null]))] s.heap.size) (wX1 C a (fun i => ([q1, q3, q5, q7, q9, q11, q13] : List Nat).getD i 0)) := by rw [← hAe]; rw [eR14, eR12, eR10, eR8, eR6, eR4, eR2] at hD; exact hD
  have hS9 : va_S (va_A [(a, .inr (1, [.int 0, .int 0, .int 0, .int 0, .int 0, .int 0, .int 0, .int 0, .null, .null, .null, .null, .null, .null, .null]))] s.heap.size) s.heap H locs := by rw [← hAe]; exact hS
  exact W.vret hx hb hr (fun t ht hW => ⟨⟨(fun i => ([q1, q3, q5, q7, q9, q11, q13] : List Nat).getD i 0), rfl, trivial, by rw [ht]; exact hP9, va_K.moved hW.alike hK, hD9⟩, hS9.F ht⟩) hS9.2.2 dX1_init_68
def wX0 (C : Nat → ClassId) (a : Nat) (g : Nat → Nat) : va_W := (a, .inr (0, [.int 0, .int 0, .ref (g 0), .ref (g 1), .ref (g 2), .ref (g 3)])) :: ([((g 0), .inl (C 1, 6, .inl (fun _ => 0))), ((g 1), .inl (C 1, 6, .inl (fun _ => 0))), ((g 2), .inl (C 1, 6, .inl (fun _ => 0))), ((g 3), .inl (C 1, 6, .inl (fun _ => 0)))])
set_option maxHeartbeats 4000000 in
set_option maxRecDepth 100000 in
theorem i_X0 (l : Launch) (D : va_G) (C : Nat → ClassId) (a : Nat) (sz : Nat) : Met l yX0_init (uc yX0_init cX0_init 1 none) (rmL 1 4 24) (va_Pc [.ref a] (MPre D (tyl C) [(a, .inr (0, [.int 0, .int 0, .null, .null, .null, .null]))] sz)) (va_Qv (fun (g : Nat → Nat) => True) (MB D (tyl C) [(a, .inr (0, [.int 0, .int 0, .null, .null, .null, .null]))] sz (fun g => wX0 C a g)) (va_A [(a, .inr (0, [.int 0, .int 0, .null, .null, .null, .null]))] sz)) 4 24 (va_A [(a, .inr (0, [.int 0, .int 0, .null, .null, .null, .null]))] sz) := by
  refine pm (by decide) (Nat.le_of_ble_eq_true rfl) ?_
  intro p e s m below meth c ls hx hb hr hml hown hlk hnm hts hv hl
  have hown : s.vm.findClass RX0 = some m.cls := hown
  have hl : lv_has ls 1 [(0, .ref a)] := hl
  obtain ⟨hsz, hP, hK, hD0, hE⟩ := hv
  subst hsz
  have hD := hD0.self (sz := s.heap.size)
  obtain ⟨AA, hAe⟩ : ∃ AA, AA = va_A [(a, .inr (0, [.int 0, .int 0, .null, .null, .null, .null]))] s.heap.size := ⟨_, rfl⟩
  rw [← hAe] at hD
  have hA : ∀ q : Nat, s.heap.size ≤ q → AA q := fun q h => by rw [hAe]; exact Or.inr h
  have hS : va_S AA s.heap s.heap [] := va_S.rf
  obtain ⟨-, hAOT, hAOR, hAOI⟩ := id hE
  have hP : va_P D vwCl ((a, .inr (0, [.int 0, .int 0, .null, .null, .null, .null])) :: ([] : va_W)) s.heap := hP
  have hD : va_D AA ((a, .inr (0, [.int 0, .int 0, .null, .null, .null, .null])) :: ([] : va_W)) := hD
  refine lv_aload_n hx hb dX0_init_0 rfl (lv_at hl 0 rfl) ?_
  refine W.objInit hx hb hown (hts _ (uc_in _ q_m271)) (hts _ (uc_in _ q_n25)) (hts _ (uc_in _ q_obj)) rfl (by rw [hml]; exact hl.1) rfl dX0_init_1 (Nat.le_of_ble_eq_true rfl) (Nat.le_of_ble_eq_true rfl) ?_
  refine W.eq (g2 := F0 m 4 ls []) rfl ?_
  refine lv_aload_n hx hb dX0_init_4 rfl (lv_at hl 0 rfl) ?_
  refine lv_bipush (v := 6) hx hb dX0_init_5 (by decide) ?_
  refine nx_I hx hb (hts _ (uc_in _ q_a151)) hK hP hD hS hA (n := 6) (N' := 6) (by decide) (by decide) (Nat.le_of_ble_eq_true rfl) (Nat.le_of_ble_eq_true rfl) (Nat.le_of_ble_eq_true rfl) dX0_init_7 (fun q1 H hP hD hS => ?_)
  obtain ⟨R2, eR2⟩ : ∃ RR : va_W, RR = ([] : va_W) ++ [(q1, .inl (C 1, 6, .inl (fun _ => 0)))] := ⟨_, rfl⟩
  have hP : va_P D vwCl ((a, .inr (0, [.int 0, .int 0, .null, .null, .null, .null])) :: R2) H := by rw [eR2]; exact hP
  have hD : va_D AA ((a, .inr (0, [.int 0, .int 0, .null, .null, .null, .null])) :: R2) := by rw [eR2]; exact hD
  refine W.cs (cells' := 1) (slots' := 6) rfl rfl ?_
  refine va_putF (D := D) (ci := 0) (v := .ref q1) (ty := .array .int) (C := RX0) (T := TX0) (N := 6) hx hb hts (fun w h => uc_in w (inX0 w h)) tyX0 tyX0_ok nmX0 hown hK hP hD hS 0 rfl rfl 2 (by decide) (hts _ (uc_in _ q_f276)) (fun _ h9 => h9) rfl hnm rfl (by decide +kernel) rfl rfl (Nat.le_of_ble_eq_true rfl) dX0_init_9 (fun H locs hP hD hS => ?_)
  have hP : va_P D vwCl ((a, .inr (0, [.int 0, .int 0, .ref q1, .null, .null, .null])) :: R2) H := hP
  have hD : va_D AA ((a, .inr (0, [.int 0, .int 0, .ref q1, .null, .null, .null])) :: R2) := hD
  refine lv_aload_n hx hb dX0_init_12 rfl (lv_at hl 0 rfl) ?_
  refine lv_bipush (v := 6) hx hb dX0_init_13 (by decide) ?_
  refine nx_I hx hb (hts _ (uc_in _ q_a151)) hK hP hD hS hA (n := 6) (N' := 6) (by decide) (by decide) (Nat.le_of_ble_eq_true rfl) (Nat.le_of_ble_eq_true rfl) (Nat.le_of_ble_eq_true rfl) dX0_init_15 (fun q3 H hP hD hS => ?_)
  obtain ⟨R4, eR4⟩ : ∃ RR : va_W, RR = R2 ++ [(q3, .inl (C 1, 6, .inl (fun _ => 0)))] := ⟨_, rfl⟩
  have hP : va_P D vwCl ((a, .inr (0, [.int 0, .int 0, .ref q1, .null, .null, .null])) :: R4) H := by rw [eR4]; exact hP
  have hD : va_D AA ((a, .inr (0, [.int 0, .int 0, .ref q1, .null, .null, .null])) :: R4) := by rw [eR4]; exact hD
  refine W.cs (cells' := 2) (slots' := 12) rfl rfl ?_
  refine va_putF (D := D) (ci := 0) (v := .ref q3) (ty := .array .int) (C := RX0) (T := TX0) (N := 6) hx hb hts (fun w h => uc_in w (inX0 w h)) tyX0 tyX0_ok nmX0 hown hK hP hD hS 0 rfl rfl 3 (by decide) (hts _ (uc_in _ q_f278)) (fun _ h9 => h9) rfl hnm rfl (by decide +kernel) rfl rfl (Nat.le_of_ble_eq_true rfl) dX0_init_17 (fun H locs hP hD hS => ?_)
  have hP : va_P D vwCl ((a, .inr (0, [.int 0, .int 0, .ref q1, .ref q3, .null, .null])) :: R4) H := hP
  have hD : va_D AA ((a, .inr (0, [.int 0, .int 0, .ref q1, .ref q3, .null, .null])) :: R4) := hD
  refine lv_aload_n hx hb dX0_init_20 rfl (lv_at hl 0 rfl) ?_
  refine lv_bipush (v := 6) hx hb dX0_init_21 (by decide) ?_
  refine nx_I hx hb (hts _ (uc_in _ q_a151)) hK hP hD hS hA (n := 6) (N' := 6) (by decide) (by decide) (Nat.le_of_ble_eq_true rfl) (Nat.le_of_ble_eq_true rfl) (Nat.le_of_ble_eq_true rfl) dX0_init_23 (fun q5 H hP hD hS => ?_)
  obtain ⟨R6, eR6⟩ : ∃ RR : va_W, RR = R4 ++ [(q5, .inl (C 1, 6, .inl (fun _ => 0)))] := ⟨_, rfl⟩
  have hP : va_P D vwCl ((a, .inr (0, [.int 0, .int 0, .ref q1, .ref q3, .null, .null])) :: R6) H := by rw [eR6]; exact hP
  have hD : va_D AA ((a, .inr (0, [.int 0, .int 0, .ref q1, .ref q3, .null, .null])) :: R6) := by rw [eR6]; exact hD
  refine W.cs (cells' := 3) (slots' := 18) rfl rfl ?_
  refine va_putF (D := D) (ci := 0) (v := .ref q5) (ty := .array .int) (C := RX0) (T := TX0) (N := 6) hx hb hts (fun w h => uc_in w (inX0 w h)) tyX0 tyX0_ok nmX0 hown hK hP hD hS 0 rfl rfl 4 (by decide) (hts _ (uc_in _ q_f279)) (fun _ h9 => h9) rfl hnm rfl (by decide +kernel) rfl rfl (Nat.le_of_ble_eq_true rfl) dX0_init_25 (fun H locs hP hD hS => ?_)
  have hP : va_P D vwCl ((a, .inr (0, [.int 0, .int 0, .ref q1, .ref q3, .ref q5, .null])) :: R6) H := hP
  have hD : va_D AA ((a, .inr (0, [.int 0, .int 0, .ref q1, .ref q3, .ref q5, .null])) :: R6) := hD
  refine lv_aload_n hx hb dX0_init_28 rfl (lv_at hl 0 rfl) ?_
  refine lv_bipush (v := 6) hx hb dX0_init_29 (by decide) ?_
  refine nx_I hx hb (hts _ (uc_in _ q_a151)) hK hP hD hS hA (n := 6) (N' := 6) (by decide) (by decide) (Nat.le_of_ble_eq_true rfl) (Nat.le_of_ble_eq_true rfl) (Nat.le_of_ble_eq_true rfl) dX0_init_31 (fun q7 H hP hD hS => ?_)
  obtain ⟨R8, eR8⟩ : ∃ RR : va_W, RR = R6 ++ [(q7, .inl (C 1, 6, .inl (fun _ => 0)))] := ⟨_, rfl⟩
  have hP : va_P D vwCl ((a, .inr (0, [.int 0, .int 0, .ref q1, .ref q3, .ref q5, .null])) :: R8) H := by rw [eR8]; exact hP
  have hD : va_D AA ((a, .inr (0, [.int 0, .int 0, .ref q1, .ref q3, .ref q5, .null])) :: R8) := by rw [eR8]; exact hD
  refine W.cs (cells' := 4) (slots' := 24) rfl rfl ?_
  refine va_putF (D := D) (ci := 0) (v := .ref q7) (ty := .array .int) (C := RX0) (T := TX0) (N := 6) hx hb hts (fun w h => uc_in w (inX0 w h)) tyX0 tyX0_ok nmX0 hown hK hP hD hS 0 rfl rfl 5 (by decide) (hts _ (uc_in _ q_f280)) (fun _ h9 => h9) rfl hnm rfl (by decide +kernel) rfl rfl (Nat.le_of_ble_eq_true rfl) dX0_init_33 (fun H locs hP hD hS => ?_)
  have hP : va_P D vwCl ((a, .inr (0, [.int 0, .int 0, .ref q1, .ref q3, .ref q5, .ref q7])) :: R8) H := hP
  have hD : va_D AA ((a, .inr (0, [.int 0, .int 0, .ref q1, .ref q3, .ref q5, .ref q7])) :: R8) := hD
  have hP9 : va_P D vwCl (wX0 C a (fun i => ([q1, q3, q5, q7] : List Nat).getD i 0)) H := by rw [eR8, eR6, eR4, eR2] at hP; exact hP
  have hD9 : va_D (va_A [(a, .inr (0, [.int 0, .int 0, .null, .null, .null, .null]))] s.heap.size) (wX0 C a (fun i => ([q1, q3, q5, q7] : List Nat).getD i 0)) := by rw [← hAe]; rw [eR8, eR6, eR4, eR2] at hD; exact hD
  have hS9 : va_S (va_A [(a, .inr (0, [.int 0, .int 0, .null, .null, .null, .null]))] s.heap.size) s.heap H locs := by rw [← hAe]; exact hS
  exact W.vret hx hb hr (fun t ht hW => ⟨⟨(fun i => ([q1, q3, q5, q7] : List Nat).getD i 0), rfl, trivial, by rw [ht]; exact hP9, va_K.moved hW.alike hK, hD9⟩, hS9.F ht⟩) hS9.2.2 dX0_init_36
def wX2 (C : Nat → ClassId) (a : Nat) (g : Nat → Nat) : va_W := (a, .inr (2, [.int 0, .int 0, .int 0, .ref (g 0), .ref (g 1), .ref (g 2)])) :: ([((g 0), .inl (C 1, 6, .inl (fun _ => 0))), ((g 1), .inl (C 1, 36, .inl (fun _ => 0))), ((g 2), .inl (C 1, 36, .inl (fun _ => 0)))])
set_option maxHeartbeats 4000000 in
set_option maxRecDepth 100000 in
theorem i_X2 (l : Launch) (D : va_G) (C : Nat → ClassId) (a : Nat) (sz : Nat) : Met l yX2_init (uc yX2_init cX2_init 1 none) (rmL 1 3 78) (va_Pc [.ref a] (MPre D (tyl C) [(a, .inr (2, [.int 0, .int 0, .int 0, .null, .null, .null]))] sz)) (va_Qv (fun (g : Nat → Nat) => True) (MB D (tyl C) [(a, .inr (2, [.int 0, .int 0, .int 0, .null, .null, .null]))] sz (fun g => wX2 C a g)) (va_A [(a, .inr (2, [.int 0, .int 0, .int 0, .null, .null, .null]))] sz)) 3 78 (va_A [(a, .inr (2, [.int 0, .int 0, .int 0, .null, .null, .null]))] sz) := by
  refine pm (by decide) (Nat.le_of_ble_eq_true rfl) ?_
  intro p e s m below meth c ls hx hb hr hml hown hlk hnm hts hv hl
  have hown : s.vm.findClass RX2 = some m.cls := hown
  have hl : lv_has ls 1 [(0, .ref a)] := hl
  obtain ⟨hsz, hP, hK, hD0, hE⟩ := hv
  subst hsz
  have hD := hD0.self (sz := s.heap.size)
  obtain ⟨AA, hAe⟩ : ∃ AA, AA = va_A [(a, .inr (2, [.int 0, .int 0, .int 0, .null, .null, .null]))] s.heap.size := ⟨_, rfl⟩
  rw [← hAe] at hD
  have hA : ∀ q : Nat, s.heap.size ≤ q → AA q := fun q h => by rw [hAe]; exact Or.inr h
  have hS : va_S AA s.heap s.heap [] := va_S.rf
  obtain ⟨-, hAOT, hAOR, hAOI⟩ := id hE
  have hP : va_P D vwCl ((a, .inr (2, [.int 0, .int 0, .int 0, .null, .null, .null])) :: ([] : va_W)) s.heap := hP
  have hD : va_D AA ((a, .inr (2, [.int 0, .int 0, .int 0, .null, .null, .null])) :: ([] : va_W)) := hD
  refine lv_aload_n hx hb dX2_init_0 rfl (lv_at hl 0 rfl) ?_
  refine W.objInit hx hb hown (hts _ (uc_in _ q_m299)) (hts _ (uc_in _ q_n25)) (hts _ (uc_in _ q_obj)) rfl (by rw [hml]; exact hl.1) rfl dX2_init_1 (Nat.le_of_ble_eq_true rfl) (Nat.le_of_ble_eq_true rfl) ?_
  refine W.eq (g2 := F0 m 4 ls []) rfl ?_
  refine lv_aload_n hx hb dX2_init_4 rfl (lv_at hl 0 rfl) ?_
  refine lv_bipush (v := 6) hx hb dX2_init_5 (by decide) ?_
  refine nx_I hx hb (hts _ (uc_in _ q_a151)) hK hP hD hS hA (n := 6) (N' := 6) (by decide) (by decide) (Nat.le_of_ble_eq_true rfl) (Nat.le_of_ble_eq_true rfl) (Nat.le_of_ble_eq_true rfl) dX2_init_7 (fun q1 H hP hD hS => ?_)
  obtain ⟨R2, eR2⟩ : ∃ RR : va_W, RR = ([] : va_W) ++ [(q1, .inl (C 1, 6, .inl (fun _ => 0)))] := ⟨_, rfl⟩
  have hP : va_P D vwCl ((a, .inr (2, [.int 0, .int 0, .int 0, .null, .null, .null])) :: R2) H := by rw [eR2]; exact hP
  have hD : va_D AA ((a, .inr (2, [.int 0, .int 0, .int 0, .null, .null, .null])) :: R2) := by rw [eR2]; exact hD
  refine W.cs (cells' := 1) (slots' := 6) rfl rfl ?_
  refine va_putF (D := D) (ci := 2) (v := .ref q1) (ty := .array .int) (C := RX2) (T := TX2) (N := 6) hx hb hts (fun w h => uc_in w (inX2 w h)) tyX2 tyX2_ok nmX2 hown hK hP hD hS 0 rfl rfl 3 (by decide) (hts _ (uc_in _ q_f306)) (fun _ h9 => h9) rfl hnm rfl (by decide +kernel) rfl rfl (Nat.le_of_ble_eq_true rfl) dX2_init_9 (fun H locs hP hD hS => ?_)
  have hP : va_P D vwCl ((a, .inr (2, [.int 0, .int 0, .int 0, .ref q1, .null, .null])) :: R2) H := hP
  have hD : va_D AA ((a, .inr (2, [.int 0, .int 0, .int 0, .ref q1, .null, .null])) :: R2) := hD
  refine lv_aload_n hx hb dX2_init_12 rfl (lv_at hl 0 rfl) ?_
  refine lv_bipush (v := 36) hx hb dX2_init_13 (by decide) ?_
  refine nx_I hx hb (hts _ (uc_in _ q_a151)) hK hP hD hS hA (n := 36) (N' := 36) (by decide) (by decide) (Nat.le_of_ble_eq_true rfl) (Nat.le_of_ble_eq_true rfl) (Nat.le_of_ble_eq_true rfl) dX2_init_15 (fun q3 H hP hD hS => ?_)
  obtain ⟨R4, eR4⟩ : ∃ RR : va_W, RR = R2 ++ [(q3, .inl (C 1, 36, .inl (fun _ => 0)))] := ⟨_, rfl⟩
  have hP : va_P D vwCl ((a, .inr (2, [.int 0, .int 0, .int 0, .ref q1, .null, .null])) :: R4) H := by rw [eR4]; exact hP
  have hD : va_D AA ((a, .inr (2, [.int 0, .int 0, .int 0, .ref q1, .null, .null])) :: R4) := by rw [eR4]; exact hD
  refine W.cs (cells' := 2) (slots' := 42) rfl rfl ?_
  refine va_putF (D := D) (ci := 2) (v := .ref q3) (ty := .array .int) (C := RX2) (T := TX2) (N := 6) hx hb hts (fun w h => uc_in w (inX2 w h)) tyX2 tyX2_ok nmX2 hown hK hP hD hS 0 rfl rfl 4 (by decide) (hts _ (uc_in _ q_f307)) (fun _ h9 => h9) rfl hnm rfl (by decide +kernel) rfl rfl (Nat.le_of_ble_eq_true rfl) dX2_init_17 (fun H locs hP hD hS => ?_)
  have hP : va_P D vwCl ((a, .inr (2, [.int 0, .int 0, .int 0, .ref q1, .ref q3, .null])) :: R4) H := hP
  have hD : va_D AA ((a, .inr (2, [.int 0, .int 0, .int 0, .ref q1, .ref q3, .null])) :: R4) := hD
  refine lv_aload_n hx hb dX2_init_20 rfl (lv_at hl 0 rfl) ?_
  refine lv_bipush (v := 36) hx hb dX2_init_21 (by decide) ?_
  refine nx_I hx hb (hts _ (uc_in _ q_a151)) hK hP hD hS hA (n := 36) (N' := 36) (by decide) (by decide) (Nat.le_of_ble_eq_true rfl) (Nat.le_of_ble_eq_true rfl) (Nat.le_of_ble_eq_true rfl) dX2_init_23 (fun q5 H hP hD hS => ?_)
  obtain ⟨R6, eR6⟩ : ∃ RR : va_W, RR = R4 ++ [(q5, .inl (C 1, 36, .inl (fun _ => 0)))] := ⟨_, rfl⟩
  have hP : va_P D vwCl ((a, .inr (2, [.int 0, .int 0, .int 0, .ref q1, .ref q3, .null])) :: R6) H := by rw [eR6]; exact hP
  have hD : va_D AA ((a, .inr (2, [.int 0, .int 0, .int 0, .ref q1, .ref q3, .null])) :: R6) := by rw [eR6]; exact hD
  refine W.cs (cells' := 3) (slots' := 78) rfl rfl ?_
  refine va_putF (D := D) (ci := 2) (v := .ref q5) (ty := .array .int) (C := RX2) (T := TX2) (N := 6) hx hb hts (fun w h => uc_in w (inX2 w h)) tyX2 tyX2_ok nmX2 hown hK hP hD hS 0 rfl rfl 5 (by decide) (hts _ (uc_in _ q_f308)) (fun _ h9 => h9) rfl hnm rfl (by decide +kernel) rfl rfl (Nat.le_of_ble_eq_true rfl) dX2_init_25 (fun H locs hP hD hS => ?_)
  have hP : va_P D vwCl ((a, .inr (2, [.int 0, .int 0, .int 0, .ref q1, .ref q3, .ref q5])) :: R6) H := hP
  have hD : va_D AA ((a, .inr (2, [.int 0, .int 0, .int 0, .ref q1, .ref q3, .ref q5])) :: R6) := hD
  have hP9 : va_P D vwCl (wX2 C a (fun i => ([q1, q3, q5] : List Nat).getD i 0)) H := by rw [eR6, eR4, eR2] at hP; exact hP
  have hD9 : va_D (va_A [(a, .inr (2, [.int 0, .int 0, .int 0, .null, .null, .null]))] s.heap.size) (wX2 C a (fun i => ([q1, q3, q5] : List Nat).getD i 0)) := by rw [← hAe]; rw [eR6, eR4, eR2] at hD; exact hD
  have hS9 : va_S (va_A [(a, .inr (2, [.int 0, .int 0, .int 0, .null, .null, .null]))] s.heap.size) s.heap H locs := by rw [← hAe]; exact hS
  exact W.vret hx hb hr (fun t ht hW => ⟨⟨(fun i => ([q1, q3, q5] : List Nat).getD i 0), rfl, trivial, by rw [ht]; exact hP9, va_K.moved hW.alike hK, hD9⟩, hS9.F ht⟩) hS9.2.2 dX2_init_28
def wX8 (C : Nat → ClassId) (a : Nat) (g : Nat → Nat) : va_W := (a, .inr (8, [.int 0, .int 0, .int 0, .int 0, .int 0, .int 0, .ref (g 0), .ref (g 1), .ref (g 2)])) :: ([((g 0), .inl (C 1, 30, .inl (fun _ => 0))), ((g 1), .inl (C 1, 30, .inl (fun _ => 0))), ((g 2), .inl (C 1, 6, .inl (fun _ => 0)))])
set_option maxHeartbeats 4000000 in
set_option maxRecDepth 100000 in
theorem i_X8 (l : Launch) (D : va_G) (C : Nat → ClassId) (a : Nat) (sz : Nat) : Met l yX8_init (uc yX8_init cX8_init 1 none) (rmL 1 3 66) (va_Pc [.ref a] (MPre D (tyl C) [(a, .inr (8, [.int 0, .int 0, .int 0, .int 0, .int 0, .int 0, .null, .null, .null]))] sz)) (va_Qv (fun (g : Nat → Nat) => True) (MB D (tyl C) [(a, .inr (8, [.int 0, .int 0, .int 0, .int 0, .int 0, .int 0, .null, .null, .null]))] sz (fun g => wX8 C a g)) (va_A [(a, .inr (8, [.int 0, .int 0, .int 0, .int 0, .int 0, .int 0, .null, .null, .null]))] sz)) 3 66 (va_A [(a, .inr (8, [.int 0, .int 0, .int 0, .int 0, .int 0, .int 0, .null, .null, .null]))] sz) := by
  refine pm (by decide) (Nat.le_of_ble_eq_true rfl) ?_
  intro p e s m below meth c ls hx hb hr hml hown hlk hnm hts hv hl
  have hown : s.vm.findClass RX8 = some m.cls := hown
  have hl : lv_has ls 1 [(0, .ref a)] := hl
  obtain ⟨hsz, hP, hK, hD0, hE⟩ := hv
  subst hsz
  have hD := hD0.self (sz := s.heap.size)
  obtain ⟨AA, hAe⟩ : ∃ AA, AA = va_A [(a, .inr (8, [.int 0, .int 0, .int 0, .int 0, .int 0, .int 0, .null, .null, .null]))] s.heap.size := ⟨_, rfl⟩
  rw [← hAe] at hD
  have hA : ∀ q : Nat, s.heap.size ≤ q → AA q := fun q h => by rw [hAe]; exact Or.inr h
  have hS : va_S AA s.heap s.heap [] := va_S.rf
  obtain ⟨-, hAOT, hAOR, hAOI⟩ := id hE
  have hP : va_P D vwCl ((a, .inr (8, [.int 0, .int 0, .int 0, .int 0, .int 0, .int 0, .null, .null, .null])) :: ([] : va_W)) s.heap := hP
  have hD : va_D AA ((a, .inr (8, [.int 0, .int 0, .int 0, .int 0, .int 0, .int 0, .null, .null, .null])) :: ([] : va_W)) := hD
  refine lv_aload_n hx hb dX8_init_0 rfl (lv_at hl 0 rfl) ?_
  refine W.objInit hx hb hown (hts _ (uc_in _ q_m327)) (hts _ (uc_in _ q_n25)) (hts _ (uc_in _ q_obj)) rfl (by rw [hml]; exact hl.1) rfl dX8_init_1 (Nat.le_of_ble_eq_true rfl) (Nat.le_of_ble_eq_true rfl) ?_
  refine W.eq (g2 := F0 m 4 ls []) rfl ?_
  refine lv_aload_n hx hb dX8_init_4 rfl (lv_at hl 0 rfl) ?_
  refine lv_bipush (v := 30) hx hb dX8_init_5 (by decide) ?_
  refine nx_I hx hb (hts _ (uc_in _ q_a151)) hK hP hD hS hA (n := 30) (N' := 30) (by decide) (by decide) (Nat.le_of_ble_eq_true rfl) (Nat.le_of_ble_eq_true rfl) (Nat.le_of_ble_eq_true rfl) dX8_init_7 (fun q1 H hP hD hS => ?_)
  obtain ⟨R2, eR2⟩ : ∃ RR : va_W, RR = ([] : va_W) ++ [(q1, .inl (C 1, 30, .inl (fun _ => 0)))] := ⟨_, rfl⟩
  have hP : va_P D vwCl ((a, .inr (8, [.int 0, .int 0, .int 0, .int 0, .int 0, .int 0, .null, .null, .null])) :: R2) H := by rw [eR2]; exact hP
  have hD : va_D AA ((a, .inr (8, [.int 0, .int 0, .int 0, .int 0, .int 0, .int 0, .null, .null, .null])) :: R2) := by rw [eR2]; exact hD
  refine W.cs (cells' := 1) (slots' := 30) rfl rfl ?_
  refine va_putF (D := D) (ci := 8) (v := .ref q1) (ty := .array .int) (C := RX8) (T := TX8) (N := 9) hx hb hts (fun w h => uc_in w (inX8 w h)) tyX8 tyX8_ok nmX8 hown hK hP hD hS 0 rfl rfl 6 (by decide) (hts _ (uc_in _ q_f339)) (fun _ h9 => h9) rfl hnm rfl (by decide +kernel) rfl rfl (Nat.le_of_ble_eq_true rfl) dX8_init_9 (fun H locs hP hD hS => ?_)
  have hP : va_P D vwCl ((a, .inr (8, [.int 0, .int 0, .int 0, .int 0, .int 0, .int 0, .ref q1, .null, .null])) :: R2) H := hP
  have hD : va_D AA ((a, .inr (8, [.int 0, .int 0, .int 0, .int 0, .int 0, .int 0, .ref q1, .null, .null])) :: R2) := hD
  refine lv_aload_n hx hb dX8_init_12 rfl (lv_at hl 0 rfl) ?_
  refine lv_bipush (v := 30) hx hb dX8_init_13 (by decide) ?_
  refine nx_I hx hb (hts _ (uc_in _ q_a151)) hK hP hD hS hA (n := 30) (N' := 30) (by decide) (by decide) (Nat.le_of_ble_eq_true rfl) (Nat.le_of_ble_eq_true rfl) (Nat.le_of_ble_eq_true rfl) dX8_init_15 (fun q3 H hP hD hS => ?_)
  obtain ⟨R4, eR4⟩ : ∃ RR : va_W, RR = R2 ++ [(q3, .inl (C 1, 30, .inl (fun _ => 0)))] := ⟨_, rfl⟩
  have hP : va_P D vwCl ((a, .inr (8, [.int 0, .int 0, .int 0, .int 0, .int 0, .int 0, .ref q1, .null, .null])) :: R4) H := by rw [eR4]; exact hP
  have hD : va_D AA ((a, .inr (8, [.int 0, .int 0, .int 0, .int 0, .int 0, .int 0, .ref q1, .null, .null])) :: R4) := by rw [eR4]; exact hD
  refine W.cs (cells' := 2) (slots' := 60) rfl rfl ?_
  refine va_putF (D := D) (ci := 8) (v := .ref q3) (ty := .array .int) (C := RX8) (T := TX8) (N := 9) hx hb hts (fun w h => uc_in w (inX8 w h)) tyX8 tyX8_ok nmX8 hown hK hP hD hS 0 rfl rfl 7 (by decide) (hts _ (uc_in _ q_f340)) (fun _ h9 => h9) rfl hnm rfl (by decide +kernel) rfl rfl (Nat.le_of_ble_eq_true rfl) dX8_init_17 (fun H locs hP hD hS => ?_)
  have hP : va_P D vwCl ((a, .inr (8, [.int 0, .int 0, .int 0, .int 0, .int 0, .int 0, .ref q1, .ref q3, .null])) :: R4) H := hP
  have hD : va_D AA ((a, .inr (8, [.int 0, .int 0, .int 0, .int 0, .int 0, .int 0, .ref q1, .ref q3, .null])) :: R4) := hD
  refine lv_aload_n hx hb dX8_init_20 rfl (lv_at hl 0 rfl) ?_
  refine lv_bipush (v := 6) hx hb dX8_init_21 (by decide) ?_
  refine nx_I hx hb (hts _ (uc_in _ q_a151)) hK hP hD hS hA (n := 6) (N' := 6) (by decide) (by decide) (Nat.le_of_ble_eq_true rfl) (Nat.le_of_ble_eq_true rfl) (Nat.le_of_ble_eq_true rfl) dX8_init_23 (fun q5 H hP hD hS => ?_)
  obtain ⟨R6, eR6⟩ : ∃ RR : va_W, RR = R4 ++ [(q5, .inl (C 1, 6, .inl (fun _ => 0)))] := ⟨_, rfl⟩
  have hP : va_P D vwCl ((a, .inr (8, [.int 0, .int 0, .int 0, .int 0, .int 0, .int 0, .ref q1, .ref q3, .null])) :: R6) H := by rw [eR6]; exact hP
  have hD : va_D AA ((a, .inr (8, [.int 0, .int 0, .int 0, .int 0, .int 0, .int 0, .ref q1, .ref q3, .null])) :: R6) := by rw [eR6]; exact hD
  refine W.cs (cells' := 3) (slots' := 66) rfl rfl ?_
  refine va_putF (D := D) (ci := 8) (v := .ref q5) (ty := .array .int) (C := RX8) (T := TX8) (N := 9) hx hb hts (fun w h => uc_in w (inX8 w h)) tyX8 tyX8_ok nmX8 hown hK hP hD hS 0 rfl rfl 8 (by decide) (hts _ (uc_in _ q_f341)) (fun _ h9 => h9) rfl hnm rfl (by decide +kernel) rfl rfl (Nat.le_of_ble_eq_true rfl) dX8_init_25 (fun H locs hP hD hS => ?_)
  have hP : va_P D vwCl ((a, .inr (8, [.int 0, .int 0, .int 0, .int 0, .int 0, .int 0, .ref q1, .ref q3, .ref q5])) :: R6) H := hP
  have hD : va_D AA ((a, .inr (8, [.int 0, .int 0, .int 0, .int 0, .int 0, .int 0, .ref q1, .ref q3, .ref q5])) :: R6) := hD
  have hP9 : va_P D vwCl (wX8 C a (fun i => ([q1, q3, q5] : List Nat).getD i 0)) H := by rw [eR6, eR4, eR2] at hP; exact hP
  have hD9 : va_D (va_A [(a, .inr (8, [.int 0, .int 0, .int 0, .int 0, .int 0, .int 0, .null, .null, .null]))] s.heap.size) (wX8 C a (fun i => ([q1, q3, q5] : List Nat).getD i 0)) := by rw [← hAe]; rw [eR6, eR4, eR2] at hD; exact hD
  have hS9 : va_S (va_A [(a, .inr (8, [.int 0, .int 0, .int 0, .int 0, .int 0, .int 0, .null, .null, .null]))] s.heap.size) s.heap H locs := by rw [← hAe]; exact hS
  exact W.vret hx hb hr (fun t ht hW => ⟨⟨(fun i => ([q1, q3, q5] : List Nat).getD i 0), rfl, trivial, by rw [ht]; exact hP9, va_K.moved hW.alike hK, hD9⟩, hS9.F ht⟩) hS9.2.2 dX8_init_28
def wX4 (C : Nat → ClassId) (a : Nat) (g : Nat → Nat) : va_W := (a, .inr (4, [.int 0, .int 0, .ref (g 0), .long 0])) :: ([((g 0), .inl (C 1, 6, .inl (fun _ => 0)))])
set_option maxHeartbeats 4000000 in
set_option maxRecDepth 100000 in
theorem i_X4 (l : Launch) (D : va_G) (C : Nat → ClassId) (a : Nat) (sz : Nat) : Met l yX4_init (uc yX4_init cX4_init 1 none) (rmL 1 1 6) (va_Pc [.ref a] (MPre D (tyl C) [(a, .inr (4, [.int 0, .int 0, .null, .long 0]))] sz)) (va_Qv (fun (g : Nat → Nat) => True) (MB D (tyl C) [(a, .inr (4, [.int 0, .int 0, .null, .long 0]))] sz (fun g => wX4 C a g)) (va_A [(a, .inr (4, [.int 0, .int 0, .null, .long 0]))] sz)) 1 6 (va_A [(a, .inr (4, [.int 0, .int 0, .null, .long 0]))] sz) := by
  refine pm (by decide) (Nat.le_of_ble_eq_true rfl) ?_
  intro p e s m below meth c ls hx hb hr hml hown hlk hnm hts hv hl
  have hown : s.vm.findClass RX4 = some m.cls := hown
  have hl : lv_has ls 1 [(0, .ref a)] := hl
  obtain ⟨hsz, hP, hK, hD0, hE⟩ := hv
  subst hsz
  have hD := hD0.self (sz := s.heap.size)
  obtain ⟨AA, hAe⟩ : ∃ AA, AA = va_A [(a, .inr (4, [.int 0, .int 0, .null, .long 0]))] s.heap.size := ⟨_, rfl⟩
  rw [← hAe] at hD
  have hA : ∀ q : Nat, s.heap.size ≤ q → AA q := fun q h => by rw [hAe]; exact Or.inr h
  have hS : va_S AA s.heap s.heap [] := va_S.rf
  obtain ⟨-, hAOT, hAOR, hAOI⟩ := id hE
  have hP : va_P D vwCl ((a, .inr (4, [.int 0, .int 0, .null, .long 0])) :: ([] : va_W)) s.heap := hP
  have hD : va_D AA ((a, .inr (4, [.int 0, .int 0, .null, .long 0])) :: ([] : va_W)) := hD
  refine lv_aload_n hx hb dX4_init_0 rfl (lv_at hl 0 rfl) ?_
  refine W.objInit hx hb hown (hts _ (uc_in _ q_m366)) (hts _ (uc_in _ q_n25)) (hts _ (uc_in _ q_obj)) rfl (by rw [hml]; exact hl.1) rfl dX4_init_1 (Nat.le_of_ble_eq_true rfl) (Nat.le_of_ble_eq_true rfl) ?_
  refine W.eq (g2 := F0 m 4 ls []) rfl ?_
  refine lv_aload_n hx hb dX4_init_4 rfl (lv_at hl 0 rfl) ?_
  refine lv_bipush (v := 6) hx hb dX4_init_5 (by decide) ?_
  refine nx_I hx hb (hts _ (uc_in _ q_a151)) hK hP hD hS hA (n := 6) (N' := 6) (by decide) (by decide) (Nat.le_of_ble_eq_true rfl) (Nat.le_of_ble_eq_true rfl) (Nat.le_of_ble_eq_true rfl) dX4_init_7 (fun q1 H hP hD hS => ?_)
  obtain ⟨R2, eR2⟩ : ∃ RR : va_W, RR = ([] : va_W) ++ [(q1, .inl (C 1, 6, .inl (fun _ => 0)))] := ⟨_, rfl⟩
  have hP : va_P D vwCl ((a, .inr (4, [.int 0, .int 0, .null, .long 0])) :: R2) H := by rw [eR2]; exact hP
  have hD : va_D AA ((a, .inr (4, [.int 0, .int 0, .null, .long 0])) :: R2) := by rw [eR2]; exact hD
  refine W.cs (cells' := 1) (slots' := 6) rfl rfl ?_
  refine va_putF (D := D) (ci := 4) (v := .ref q1) (ty := .array .int) (C := RX4) (T := TX4) (N := 4) hx hb hts (fun w h => uc_in w (inX4 w h)) tyX4 tyX4_ok nmX4 hown hK hP hD hS 0 rfl rfl 2 (by decide) (hts _ (uc_in _ q_f371)) (fun _ h9 => h9) rfl hnm rfl (by decide +kernel) rfl rfl (Nat.le_of_ble_eq_true rfl) dX4_init_9 (fun H locs hP hD hS => ?_)
  have hP : va_P D vwCl ((a, .inr (4, [.int 0, .int 0, .ref q1, .long 0])) :: R2) H := hP
  have hD : va_D AA ((a, .inr (4, [.int 0, .int 0, .ref q1, .long 0])) :: R2) := hD
  have hP9 : va_P D vwCl (wX4 C a (fun i => ([q1] : List Nat).getD i 0)) H := by rw [eR2] at hP; exact hP
  have hD9 : va_D (va_A [(a, .inr (4, [.int 0, .int 0, .null, .long 0]))] s.heap.size) (wX4 C a (fun i => ([q1] : List Nat).getD i 0)) := by rw [← hAe]; rw [eR2] at hD; exact hD
  have hS9 : va_S (va_A [(a, .inr (4, [.int 0, .int 0, .null, .long 0]))] s.heap.size) s.heap H locs := by rw [← hAe]; exact hS
  exact W.vret hx hb hr (fun t ht hW => ⟨⟨(fun i => ([q1] : List Nat).getD i 0), rfl, trivial, by rw [ht]; exact hP9, va_K.moved hW.alike hK, hD9⟩, hS9.F ht⟩) hS9.2.2 dX4_init_12
