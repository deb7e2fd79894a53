set_option maxHeartbeats 4000000 in
set_option maxRecDepth 100000 in
theorem kX6_take_0 (l : Launch) (D : va_G) (cB cI cJ cZ cT cR : ClassId) (a0 a1 : Nat) (x0 : Int32) (sz : Nat) : Met l yX6_take (uc yX6_take cX6_take 3 none) (rmL 1 0 0) (va_Pc [.ref a0, .int x0] (MPre D [(cB, .byte), (cI, .int), (cJ, .long), (cZ, .boolean), (cT, .object RX7), (cR, .object RX3)] [(a0, .inr (6, [.ref a1, .int 0, .int 0, .int (-1), .int 0, .int 0, .int 0, .int 0])), (a1, .inl (cB, 800, .inl (fun _ => 0)))] sz)) (va_Qv (fun (_ : (Nat → Int32)) => True) (MB D [(cB, .byte), (cI, .int), (cJ, .long), (cZ, .boolean), (cT, .object RX7), (cR, .object RX3)] [(a0, .inr (6, [.ref a1, .int 0, .int 0, .int (-1), .int 0, .int 0, .int 0, .int 0])), (a1, .inl (cB, 800, .inl (fun _ => 0)))] sz (fun (u : (Nat → Int32)) => [(a0, .inr (6, [.ref a1, .int 4, .int 0, .int (-1), .int 0, .int 0, .int 0, .int 0])), (a1, .inl (cB, 800, .inl u))])) (va_A [(a0, .inr (6, [.ref a1, .int 0, .int 0, .int (-1), .int 0, .int 0, .int 0, .int 0])), (a1, .inl (cB, 800, .inl (fun _ => 0)))] sz)) 0 0 (va_A [(a0, .inr (6, [.ref a1, .int 0, .int 0, .int (-1), .int 0, .int 0, .int 0, .int 0])), (a1, .inl (cB, 800, .inl (fun _ => 0)))] sz) := by
  refine pm (by decide) (Nat.le_of_ble_eq_true rfl) ?_
  intro p e s m below meth c ls hx hb hr hml hown hlk hnm hts hv hl
  have hown : s.vm.findClass RX6 = some m.cls := hown
  have hl : lv_has ls 3 [(0, .ref a0), (1, .int x0)] := hl
  obtain ⟨hsz, hP, hK, hD0, hE⟩ := hv
  subst hsz
  have hD := hD0.self (sz := s.heap.size)
  obtain ⟨AA, hAe⟩ : ∃ AA, AA = va_A [(a0, .inr (6, [.ref a1, .int 0, .int 0, .int (-1), .int 0, .int 0, .int 0, .int 0])), (a1, .inl (cB, 800, .inl (fun _ => 0)))] s.heap.size := ⟨_, rfl⟩
  rw [← hAe] at hD
  have hA : ∀ q : Nat, s.heap.size ≤ q → AA q := fun q h => by rw [hAe]; exact Or.inr h
  have hS : va_S AA s.heap s.heap [] := va_S.rf
  obtain ⟨-, hAOT, hAOR, hAOI⟩ := id hE
  refine lv_bipush (v := 24) hx hb dX6_take_0 (by decide) ?_
  refine lv_istore_n (lv' := [(2, .int 24), (0, .ref a0), (1, .int x0)]) hx hb dX6_take_2 rfl hl (by decide) rfl (fun ls hl => ?_)
  refine lv_iload_n hx hb dX6_take_3 rfl (lv_at hl 0 rfl) ?_
  refine lv_if_lt (tgt := 46) hx hb dX6_take_4 (by decide) (fun c9 => absurd c9 (by decide)) (fun _ => ?_)
  refine lv_aload_n hx hb dX6_take_7 rfl (lv_at hl 1 rfl) ?_
  refine va_get (D := D) (ci := 6) (v := .int 0) (C := RX6) (T := TX6) (N := 8) hx hb hts (fun w h => uc_in w (inX6 w h)) hown hK hP 0 rfl rfl 1 (by decide) (hts _ (uc_in _ q_f35)) (fun _ h9 => h9) rfl dX6_take_8 ?_
  refine lv_sipush (v := 800) hx hb dX6_take_11 (by decide) ?_
  refine lv_icmp_ge (tgt := 46) hx hb dX6_take_14 (by decide) (fun c9 => absurd c9 (by decide)) (fun _ => ?_)
  refine lv_aload_n hx hb dX6_take_17 rfl (lv_at hl 1 rfl) ?_
  refine va_get (D := D) (ci := 6) (v := .ref a1) (C := RX6) (T := TX6) (N := 8) hx hb hts (fun w h => uc_in w (inX6 w h)) hown hK hP 0 rfl rfl 0 (by decide) (hts _ (uc_in _ q_f33)) (fun _ h9 => h9) rfl dX6_take_18 ?_
  refine lv_aload_n hx hb dX6_take_21 rfl (lv_at hl 1 rfl) ?_
  refine va_get (D := D) (ci := 6) (v := .int 0) (C := RX6) (T := TX6) (N := 8) hx hb hts (fun w h => uc_in w (inX6 w h)) hown hK hP 0 rfl rfl 1 (by decide) (hts _ (uc_in _ q_f35)) (fun _ h9 => h9) rfl dX6_take_22 ?_
  refine lv_iload_n hx hb dX6_take_25 rfl (lv_at hl 2 rfl) ?_
  refine lv_iload_n hx hb dX6_take_26 rfl (lv_at hl 0 rfl) ?_
  refine lv_ishr hx hb dX6_take_27 ?_
  refine lv_topi (fun z1 ez1 => ?_)
  refine lv_i2b hx hb dX6_take_28 rfl ?_
  refine lv_topi (fun z2 ez2 => ?_)
  refine va_bast hx hb hK hP hD hS 1 0 rfl rfl (vp_in_iff.mpr ⟨by decide, by decide⟩) dX6_take_29 (fun H locs hP hD hS => ?_)
  obtain ⟨f3, ef3⟩ : ∃ f9, f9 = upd (fun _ => 0) 0.toNatClampNeg (vp_nar .byte z2) := ⟨_, rfl⟩
  rw [← ef3] at hP hD
  have hP : va_P D vwCl [(a0, .inr (6, [.ref a1, .int 0, .int 0, .int (-1), .int 0, .int 0, .int 0, .int 0])), (a1, .inl (cB, 800, .inl f3))] H := hP
  have hD : va_D AA [(a0, .inr (6, [.ref a1, .int 0, .int 0, .int (-1), .int 0, .int 0, .int 0, .int 0])), (a1, .inl (cB, 800, .inl f3))] := hD
  refine lv_aload_n hx hb dX6_take_30 rfl (lv_at hl 1 rfl) ?_
  refine lv_dup hx hb dX6_take_31 rfl ?_
  refine va_get (D := D) (ci := 6) (v := .int 0) (C := RX6) (T := TX6) (N := 8) hx hb hts (fun w h => uc_in w (inX6 w h)) hown hK hP 0 rfl rfl 1 (by decide) (hts _ (uc_in _ q_f35)) (fun _ h9 => h9) rfl dX6_take_32 ?_
  refine lv_iconst (v := 1) hx hb dX6_take_35 (by decide) ?_
  refine lv_iadd hx hb dX6_take_36 ?_
  refine pv_i (v := 1) (by decide) ?_
  refine va_put (D := D) (ci := 6) (v := .int 1) (ty := .int) (C := RX6) (T := TX6) (N := 8) hx hb hts (fun w h => uc_in w (inX6 w h)) tyX6 tyX6_ok nmX6 hown hK hP hD hS 0 rfl rfl 1 (by decide) (hts _ (uc_in _ q_f35)) (fun _ h9 => h9) rfl (by decide +kernel) rfl rfl (Nat.le_of_ble_eq_true rfl) dX6_take_37 (fun H locs hP hD hS => ?_)
  have hP : va_P D vwCl [(a0, .inr (6, [.ref a1, .int 1, .int 0, .int (-1), .int 0, .int 0, .int 0, .int 0])), (a1, .inl (cB, 800, .inl f3))] H := hP
  have hD : va_D AA [(a0, .inr (6, [.ref a1, .int 1, .int 0, .int (-1), .int 0, .int 0, .int 0, .int 0])), (a1, .inl (cB, 800, .inl f3))] := hD
  refine lv_iinc (v := 16) (lv' := [(2, .int 16), (0, .ref a0), (1, .int x0)]) hx hb dX6_take_40 hl (k := 0) rfl (by decide) (by decide) rfl (fun ls hl => ?_)
  refine lv_goto (tgt := 3) hx hb dX6_take_43 (by decide) ?_
  refine lv_iload_n hx hb dX6_take_3 rfl (lv_at hl 0 rfl) ?_
  refine lv_if_lt (tgt := 46) hx hb dX6_take_4 (by decide) (fun c9 => absurd c9 (by decide)) (fun _ => ?_)
  refine lv_aload_n hx hb dX6_take_7 rfl (lv_at hl 1 rfl) ?_
  refine va_get (D := D) (ci := 6) (v := .int 1) (C := RX6) (T := TX6) (N := 8) hx hb hts (fun w h => uc_in w (inX6 w h)) hown hK hP 0 rfl rfl 1 (by decide) (hts _ (uc_in _ q_f35)) (fun _ h9 => h9) rfl dX6_take_8 ?_
  refine lv_sipush (v := 800) hx hb dX6_take_11 (by decide) ?_
  refine lv_icmp_ge (tgt := 46) hx hb dX6_take_14 (by decide) (fun c9 => absurd c9 (by decide)) (fun _ => ?_)
  refine lv_aload_n hx hb dX6_take_17 rfl (lv_at hl 1 rfl) ?_
  refine va_get (D := D) (ci := 6) (v := .ref a1) (C := RX6) (T := TX6) (N := 8) hx hb hts (fun w h => uc_in w (inX6 w h)) hown hK hP 0 rfl rfl 0 (by decide) (hts _ (uc_in _ q_f33)) (fun _ h9 => h9) rfl dX6_take_18 ?_
  refine lv_aload_n hx hb dX6_take_21 rfl (lv_at hl 1 rfl) ?_
  refine va_get (D := D) (ci := 6) (v := .int 1) (C := RX6) (T := TX6) (N := 8) hx hb hts (fun w h => uc_in w (inX6 w h)) hown hK hP 0 rfl rfl 1 (by decide) (hts _ (uc_in _ q_f35)) (fun _ h9 => h9) rfl dX6_take_22 ?_
  refine lv_iload_n hx hb dX6_take_25 rfl (lv_at hl 2 rfl) ?_
  refine lv_iload_n hx hb dX6_take_26 rfl (lv_at hl 0 rfl) ?_
  refine lv_ishr hx hb dX6_take_27 ?_
  refine lv_topi (fun z4 ez4 => ?_)
  refine lv_i2b hx hb dX6_take_28 rfl ?_
  refine lv_topi (fun z5 ez5 => ?_)
  refine va_bast hx hb hK hP hD hS 1 0 rfl rfl (vp_in_iff.mpr ⟨by decide, by decide⟩) dX6_take_29 (fun H locs hP hD hS => ?_)
  obtain ⟨f6, ef6⟩ : ∃ f9, f9 = upd f3 1.toNatClampNeg (vp_nar .byte z5) := ⟨_, rfl⟩
  rw [← ef6] at hP hD
  have hP : va_P D vwCl [(a0, .inr (6, [.ref a1, .int 1, .int 0, .int (-1), .int 0, .int 0, .int 0, .int 0])), (a1, .inl (cB, 800, .inl f6))] H := hP
  have hD : va_D AA [(a0, .inr (6, [.ref a1, .int 1, .int 0, .int (-1), .int 0, .int 0, .int 0, .int 0])), (a1, .inl (cB, 800, .inl f6))] := hD
  refine lv_aload_n hx hb dX6_take_30 rfl (lv_at hl 1 rfl) ?_
  refine lv_dup hx hb dX6_take_31 rfl ?_
  refine va_get (D := D) (ci := 6) (v := .int 1) (C := RX6) (T := TX6) (N := 8) hx hb hts (fun w h => uc_in w (inX6 w h)) hown hK hP 0 rfl rfl 1 (by decide) (hts _ (uc_in _ q_f35)) (fun _ h9 => h9) rfl dX6_take_32 ?_
  refine lv_iconst (v := 1) hx hb dX6_take_35 (by decide) ?_
  refine lv_iadd hx hb dX6_take_36 ?_
  refine pv_i (v := 2) (by decide) ?_
  refine va_put (D := D) (ci := 6) (v := .int 2) (ty := .int) (C := RX6) (T := TX6) (N := 8) hx hb hts (fun w h => uc_in w (inX6 w h)) tyX6 tyX6_ok nmX6 hown hK hP hD hS 0 rfl rfl 1 (by decide) (hts _ (uc_in _ q_f35)) (fun _ h9 => h9) rfl (by decide +kernel) rfl rfl (Nat.le_of_ble_eq_true rfl) dX6_take_37 (fun H locs hP hD hS => ?_)
  have hP : va_P D vwCl [(a0, .inr (6, [.ref a1, .int 2, .int 0, .int (-1), .int 0, .int 0, .int 0, .int 0])), (a1, .inl (cB, 800, .inl f6))] H := hP
  have hD : va_D AA [(a0, .inr (6, [.ref a1, .int 2, .int 0, .int (-1), .int 0, .int 0, .int 0, .int 0])), (a1, .inl (cB, 800, .inl f6))] := hD
  refine lv_iinc (v := 8) (lv' := [(2, .int 8), (0, .ref a0), (1, .int x0)]) hx hb dX6_take_40 hl (k := 0) rfl (by decide) (by decide) rfl (fun ls hl => ?_)
  refine lv_goto (tgt := 3) hx hb dX6_take_43 (by decide) ?_
  refine lv_iload_n hx hb dX6_take_3 rfl (lv_at hl 0 rfl) ?_
  refine lv_if_lt (tgt := 46) hx hb dX6_take_4 (by decide) (fun c9 => absurd c9 (by decide)) (fun _ => ?_)
  refine lv_aload_n hx hb dX6_take_7 rfl (lv_at hl 1 rfl) ?_
  refine va_get (D := D) (ci := 6) (v := .int 2) (C := RX6) (T := TX6) (N := 8) hx hb hts (fun w h => uc_in w (inX6 w h)) hown hK hP 0 rfl rfl 1 (by decide) (hts _ (uc_in _ q_f35)) (fun _ h9 => h9) rfl dX6_take_8 ?_
  refine lv_sipush (v := 800) hx hb dX6_take_11 (by decide) ?_
  refine lv_icmp_ge (tgt := 46) hx hb dX6_take_14 (by decide) (fun c9 => absurd c9 (by decide)) (fun _ => ?_)
  refine lv_aload_n hx hb dX6_take_17 rfl (lv_at hl 1 rfl) ?_
  refine va_get (D := D) (ci := 6) (v := .ref a1) (C := RX6) (T := TX6) (N := 8) hx hb hts (fun w h => uc_in w (inX6 w h)) hown hK hP 0 rfl rfl 0 (by decide) (hts _ (uc_in _ q_f33)) (fun _ h9 => h9) rfl dX6_take_18 ?_
  refine lv_aload_n hx hb dX6_take_21 rfl (lv_at hl 1 rfl) ?_
  refine va_get (D := D) (ci := 6) (v := .int 2) (C := RX6) (T := TX6) (N := 8) hx hb hts (fun w h => uc_in w (inX6 w h)) hown hK hP 0 rfl rfl 1 (by decide) (hts _ (uc_in _ q_f35)) (fun _ h9 => h9) rfl dX6_take_22 ?_
  refine lv_iload_n hx hb dX6_take_25 rfl (lv_at hl 2 rfl) ?_
  refine lv_iload_n hx hb dX6_take_26 rfl (lv_at hl 0 rfl) ?_
  refine lv_ishr hx hb dX6_take_27 ?_
  refine lv_topi (fun z7 ez7 => ?_)
  refine lv_i2b hx hb dX6_take_28 rfl ?_
  refine lv_topi (fun z8 ez8 => ?_)
  refine va_bast hx hb hK hP hD hS 1 0 rfl rfl (vp_in_iff.mpr ⟨by decide, by decide⟩) dX6_take_29 (fun H locs hP hD hS => ?_)
  obtain ⟨f9, ef9⟩ : ∃ f9, f9 = upd f6 2.toNatClampNeg (vp_nar .byte z8) := ⟨_, rfl⟩
  rw [← ef9] at hP hD
  have hP : va_P D vwCl [(a0, .inr (6, [.ref a1, .int 2, .int 0, .int (-1), .int 0, .int 0, .int 0, .int 0])), (a1, .inl (cB, 800, .inl f9))] H := hP
  have hD : va_D AA [(a0, .inr (6, [.ref a1, .int 2, .int 0, .int (-1), .int 0, .int 0, .int 0, .int 0])), (a1, .inl (cB, 800, .inl f9))] := hD
  refine lv_aload_n hx hb dX6_take_30 rfl (lv_at hl 1 rfl) ?_
  refine lv_dup hx hb dX6_take_31 rfl ?_
  refine va_get (D := D) (ci := 6) (v := .int 2) (C := RX6) (T := TX6) (N := 8) hx hb hts (fun w h => uc_in w (inX6 w h)) hown hK hP 0 rfl rfl 1 (by decide) (hts _ (uc_in _ q_f35)) (fun _ h9 => h9) rfl dX6_take_32 ?_
  refine lv_iconst (v := 1) hx hb dX6_take_35 (by decide) ?_
  refine lv_iadd hx hb dX6_take_36 ?_
  refine pv_i (v := 3) (by decide) ?_
  refine va_put (D := D) (ci := 6) (v := .int 3) (ty := .int) (C := RX6) (T := TX6) (N := 8) hx hb hts (fun w h => uc_in w (inX6 w h)) tyX6 tyX6_ok nmX6 hown hK hP hD hS 0 rfl rfl 1 (by decide) (hts _ (uc_in _ q_f35)) (fun _ h9 => h9) rfl (by decide +kernel) rfl rfl (Nat.le_of_ble_eq_true rfl) dX6_take_37 (fun H locs hP hD hS => ?_)
  have hP : va_P D vwCl [(a0, .inr (6, [.ref a1, .int 3, .int 0, .int (-1), .int 0, .int 0, .int 0, .int 0])), (a1, .inl (cB, 800, .inl f9))] H := hP
  have hD : va_D AA [(a0, .inr (6, [.ref a1, .int 3, .int 0, .int (-1), .int 0, .int 0, .int 0, .int 0])), (a1, .inl (cB, 800, .inl f9))] := hD
  refine lv_iinc (v := 0) (lv' := [(2, .int 0), (0, .ref a0), (1, .int x0)]) hx hb dX6_take_40 hl (k := 0) rfl (by decide) (by decide) rfl (fun ls hl => ?_)
  refine lv_goto (tgt := 3) hx hb dX6_take_43 (by decide) ?_
  refine lv_iload_n hx hb dX6_take_3 rfl (lv_at hl 0 rfl) ?_
  refine lv_if_lt (tgt := 46) hx hb dX6_take_4 (by decide) (fun c9 => absurd c9 (by decide)) (fun _ => ?_)
  refine lv_aload_n hx hb dX6_take_7 rfl (lv_at hl 1 rfl) ?_
  refine va_get (D := D) (ci := 6) (v := .int 3) (C := RX6) (T := TX6) (N := 8) hx hb hts (fun w h => uc_in w (inX6 w h)) hown hK hP 0 rfl rfl 1 (by decide) (hts _ (uc_in _ q_f35)) (fun _ h9 => h9) rfl dX6_take_8 ?_
  refine lv_sipush (v := 800) hx hb dX6_take_11 (by decide) ?_
  refine lv_icmp_ge (tgt := 46) hx hb dX6_take_14 (by decide) (fun c9 => absurd c9 (by decide)) (fun _ => ?_)
  refine lv_aload_n hx hb dX6_take_17 rfl (lv_at hl 1 rfl) ?_
  refine va_get (D := D) (ci := 6) (v := .ref a1) (C := RX6) (T := TX6) (N := 8) hx hb hts (fun w h => uc_in w (inX6 w h)) hown hK hP 0 rfl rfl 0 (by decide) (hts _ (uc_in _ q_f33)) (fun _ h9 => h9) rfl dX6_take_18 ?_
  refine lv_aload_n hx hb dX6_take_21 rfl (lv_at hl 1 rfl) ?_
  refine va_get (D := D) (ci := 6) (v := .int 3) (C := RX6) (T := TX6) (N := 8) hx hb hts (fun w h => uc_in w (inX6 w h)) hown hK hP 0 rfl rfl 1 (by decide) (hts _ (uc_in _ q_f35)) (fun _ h9 => h9) rfl dX6_take_22 ?_
  refine lv_iload_n hx hb dX6_take_25 rfl (lv_at hl 2 rfl) ?_
  refine lv_iload_n hx hb dX6_take_26 rfl (lv_at hl 0 rfl) ?_
  refine lv_ishr hx hb dX6_take_27 ?_
  refine lv_topi (fun z10 ez10 => ?_)
  refine lv_i2b hx hb dX6_take_28 rfl ?_
  refine lv_topi (fun z11 ez11 => ?_)
  refine va_bast hx hb hK hP hD hS 1 0 rfl rfl (vp_in_iff.mpr ⟨by decide, by decide⟩) dX6_take_29 (fun H locs hP hD hS => ?_)
  obtain ⟨f12, ef12⟩ : ∃ f9, f9 = upd f9 3.toNatClampNeg (vp_nar .byte z11) := ⟨_, rfl⟩
  rw [← ef12] at hP hD
  have hP : va_P D vwCl [(a0, .inr (6, [.ref a1, .int 3, .int 0, .int (-1), .int 0, .int 0, .int 0, .int 0])), (a1, .inl (cB, 800, .inl f12))] H := hP
  have hD : va_D AA [(a0, .inr (6, [.ref a1, .int 3, .int 0, .int (-1), .int 0, .int 0, .int 0, .int 0])), (a1, .inl (cB, 800, .inl f12))] := hD
  refine lv_aload_n hx hb dX6_take_30 rfl (lv_at hl 1 rfl) ?_
  refine lv_dup hx hb dX6_take_31 rfl ?_
  refine va_get (D := D) (ci := 6) (v := .int 3) (C := RX6) (T := TX6) (N := 8) hx hb hts (fun w h => uc_in w (inX6 w h)) hown hK hP 0 rfl rfl 1 (by decide) (hts _ (uc_in _ q_f35)) (fun _ h9 => h9) rfl dX6_take_32 ?_
  refine lv_iconst (v := 1) hx hb dX6_take_35 (by decide) ?_
  refine lv_iadd hx hb dX6_take_36 ?_
  refine pv_i (v := 4) (by decide) ?_
  refine va_put (D := D) (ci := 6) (v := .int 4) (ty := .int) (C := RX6) (T := TX6) (N := 8) hx hb hts (fun w h => uc_in w (inX6 w h)) tyX6 tyX6_ok nmX6 hown hK hP hD hS 0 rfl rfl 1 (by decide) (hts _ (uc_in _ q_f35)) (fun _ h9 => h9) rfl (by decide +kernel) rfl rfl (Nat.le_of_ble_eq_true rfl) dX6_take_37 (fun H locs hP hD hS => ?_)
  have hP : va_P D vwCl [(a0, .inr (6, [.ref a1, .int 4, .int 0, .int (-1), .int 0, .int 0, .int 0, .int 0])), (a1, .inl (cB, 800, .inl f12))] H := hP
  have hD : va_D AA [(a0, .inr (6, [.ref a1, .int 4, .int 0, .int (-1), .int 0, .int 0, .int 0, .int 0])), (a1, .inl (cB, 800, .inl f12))] := hD
  refine lv_iinc (v := (-8)) (lv' := [(2, .int (-8)), (0, .ref a0), (1, .int x0)]) hx hb dX6_take_40 hl (k := 0) rfl (by decide) (by decide) rfl (fun ls hl => ?_)
  refine lv_goto (tgt := 3) hx hb dX6_take_43 (by decide) ?_
  refine lv_iload_n hx hb dX6_take_3 rfl (lv_at hl 0 rfl) ?_
  refine lv_if_lt (tgt := 46) hx hb dX6_take_4 (by decide) (fun _ => ?_) (fun c9 => absurd (by decide) c9)
  subst hAe
  have hP9 := hP.sub (ws' := [(a0, .inr (6, [.ref a1, .int 4, .int 0, .int (-1), .int 0, .int 0, .int 0, .int 0])), (a1, .inl (cB, 800, .inl f12))]) [0, 1] rfl
  have hD9 := hD.sub (ws' := [(a0, .inr (6, [.ref a1, .int 4, .int 0, .int (-1), .int 0, .int 0, .int 0, .int 0])), (a1, .inl (cB, 800, .inl f12))]) [0, 1] rfl rfl
  exact W.vret hx hb hr (fun t ht hW => ⟨⟨f12, rfl, trivial, by rw [ht]; exact hP9, va_K.moved hW.alike hK, hD9⟩, hS.F ht⟩) hS.2.2 dX6_take_46
set_option maxHeartbeats 4000000 in
set_option maxRecDepth 100000 in
theorem kX6_take_1 (l : Launch) (D : va_G) (cB cI cJ cZ cT cR : ClassId) (a0 a1 : Nat) (x0 : Int32) (f90 : Nat → Int32) (sz : Nat) : Met l yX6_take (uc yX6_take cX6_take 3 none) (rmL 1 0 0) (va_Pc [.ref a0, .int x0] (MPre D [(cB, .byte), (cI, .int), (cJ, .long), (cZ, .boolean), (cT, .object RX7), (cR, .object RX3)] [(a0, .inr (6, [.ref a1, .int 4, .int 0, .int (-1), .int 0, .int 0, .int 0, .int 0])), (a1, .inl (cB, 800, .inl f90))] sz)) (va_Qv (fun (_ : (Nat → Int32)) => True) (MB D [(cB, .byte), (cI, .int), (cJ, .long), (cZ, .boolean), (cT, .object RX7), (cR, .object RX3)] [(a0, .inr (6, [.ref a1, .int 4, .int 0, .int (-1), .int 0, .int 0, .int 0, .int 0])), (a1, .inl (cB, 800, .inl f90))] sz (fun (u : (Nat → Int32)) => [(a0, .inr (6, [.ref a1, .int 8, .int 0, .int (-1), .int 0, .int 0, .int 0, .int 0])), (a1, .inl (cB, 800, .inl u))])) (va_A [(a0, .inr (6, [.ref a1, .int 4, .int 0, .int (-1), .int 0, .int 0, .int 0, .int 0])), (a1, .inl (cB, 800, .inl f90))] sz)) 0 0 (va_A [(a0, .inr (6, [.ref a1, .int 4, .int 0, .int (-1), .int 0, .int 0, .int 0, .int 0])), (a1, .inl (cB, 800, .inl f90))] sz) := by
  refine pm (by decide) (Nat.le_of_ble_eq_true rfl) ?_
  intro p e s m below meth c ls hx hb hr hml hown hlk hnm hts hv hl
  have hown : s.vm.findClass RX6 = some m.cls := hown
  have hl : lv_has ls 3 [(0, .ref a0), (1, .int x0)] := hl
  obtain ⟨hsz, hP, hK, hD0, hE⟩ := hv
  subst hsz
  have hD := hD0.self (sz := s.heap.size)
  obtain ⟨AA, hAe⟩ : ∃ AA, AA = va_A [(a0, .inr (6, [.ref a1, .int 4, .int 0, .int (-1), .int 0, .int 0, .int 0, .int 0])), (a1, .inl (cB, 800, .inl f90))] s.heap.size := ⟨_, rfl⟩
  rw [← hAe] at hD
  have hA : ∀ q : Nat, s.heap.size ≤ q → AA q := fun q h => by rw [hAe]; exact Or.inr h
  have hS : va_S AA s.heap s.heap [] := va_S.rf
  obtain ⟨-, hAOT, hAOR, hAOI⟩ := id hE
  refine lv_bipush (v := 24) hx hb dX6_take_0 (by decide) ?_
  refine lv_istore_n (lv' := [(2, .int 24), (0, .ref a0), (1, .int x0)]) hx hb dX6_take_2 rfl hl (by decide) rfl (fun ls hl => ?_)
  refine lv_iload_n hx hb dX6_take_3 rfl (lv_at hl 0 rfl) ?_
  refine lv_if_lt (tgt := 46) hx hb dX6_take_4 (by decide) (fun c9 => absurd c9 (by decide)) (fun _ => ?_)
  refine lv_aload_n hx hb dX6_take_7 rfl (lv_at hl 1 rfl) ?_
  refine va_get (D := D) (ci := 6) (v := .int 4) (C := RX6) (T := TX6) (N := 8) hx hb hts (fun w h => uc_in w (inX6 w h)) hown hK hP 0 rfl rfl 1 (by decide) (hts _ (uc_in _ q_f35)) (fun _ h9 => h9) rfl dX6_take_8 ?_
  refine lv_sipush (v := 800) hx hb dX6_take_11 (by decide) ?_
  refine lv_icmp_ge (tgt := 46) hx hb dX6_take_14 (by decide) (fun c9 => absurd c9 (by decide)) (fun _ => ?_)
  refine lv_aload_n hx hb dX6_take_17 rfl (lv_at hl 1 rfl) ?_
  refine va_get (D := D) (ci := 6) (v := .ref a1) (C := RX6) (T := TX6) (N := 8) hx hb hts (fun w h => uc_in w (inX6 w h)) hown hK hP 0 rfl rfl 0 (by decide) (hts _ (uc_in _ q_f33)) (fun _ h9 => h9) rfl dX6_take_18 ?_
  refine lv_aload_n hx hb dX6_take_21 rfl (lv_at hl 1 rfl) ?_
  refine va_get (D := D) (ci := 6) (v := .int 4) (C := RX6) (T := TX6) (N := 8) hx hb hts (fun w h => uc_in w (inX6 w h)) hown hK hP 0 rfl rfl 1 (by decide) (hts _ (uc_in _ q_f35)) (fun _ h9 => h9) rfl dX6_take_22 ?_
  refine lv_iload_n hx hb dX6_take_25 rfl (lv_at hl 2 rfl) ?_
  refine lv_iload_n hx hb dX6_take_26 rfl (lv_at hl 0 rfl) ?_
  refine lv_ishr hx hb dX6_take_27 ?_
  refine lv_topi (fun z1 ez1 => ?_)
  refine lv_i2b hx hb dX6_take_28 rfl ?_
  refine lv_topi (fun z2 ez2 => ?_)
  refine va_bast hx hb hK hP hD hS 1 0 rfl rfl (vp_in_iff.mpr ⟨by decide, by decide⟩) dX6_take_29 (fun H locs hP hD hS => ?_)
  obtain ⟨f3, ef3⟩ : ∃ f9, f9 = upd f90 4.toNatClampNeg (vp_nar .byte z2) := ⟨_, rfl⟩
  rw [← ef3] at hP hD
  have hP : va_P D vwCl [(a0, .inr (6, [.ref a1, .int 4, .int 0, .int (-1), .int 0, .int 0, .int 0, .int 0])), (a1, .inl (cB, 800, .inl f3))] H := hP
  have hD : va_D AA [(a0, .inr (6, [.ref a1, .int 4, .int 0, .int (-1), .int 0, .int 0, .int 0, .int 0])), (a1, .inl (cB, 800, .inl f3))] := hD
  refine lv_aload_n hx hb dX6_take_30 rfl (lv_at hl 1 rfl) ?_
  refine lv_dup hx hb dX6_take_31 rfl ?_
  refine va_get (D := D) (ci := 6) (v := .int 4) (C := RX6) (T := TX6) (N := 8) hx hb hts (fun w h => uc_in w (inX6 w h)) hown hK hP 0 rfl rfl 1 (by decide) (hts _ (uc_in _ q_f35)) (fun _ h9 => h9) rfl dX6_take_32 ?_
  refine lv_iconst (v := 1) hx hb dX6_take_35 (by decide) ?_
  refine lv_iadd hx hb dX6_take_36 ?_
  refine pv_i (v := 5) (by decide) ?_
  refine va_put (D := D) (ci := 6) (v := .int 5) (ty := .int) (C := RX6) (T := TX6) (N := 8) hx hb hts (fun w h => uc_in w (inX6 w h)) tyX6 tyX6_ok nmX6 hown hK hP hD hS 0 rfl rfl 1 (by decide) (hts _ (uc_in _ q_f35)) (fun _ h9 => h9) rfl (by decide +kernel) rfl rfl (Nat.le_of_ble_eq_true rfl) dX6_take_37 (fun H locs hP hD hS => ?_)
  have hP : va_P D vwCl [(a0, .inr (6, [.ref a1, .int 5, .int 0, .int (-1), .int 0, .int 0, .int 0, .int 0])), (a1, .inl (cB, 800, .inl f3))] H := hP
  have hD : va_D AA [(a0, .inr (6, [.ref a1, .int 5, .int 0, .int (-1), .int 0, .int 0, .int 0, .int 0])), (a1, .inl (cB, 800, .inl f3))] := hD
  refine lv_iinc (v := 16) (lv' := [(2, .int 16), (0, .ref a0), (1, .int x0)]) hx hb dX6_take_40 hl (k := 0) rfl (by decide) (by decide) rfl (fun ls hl => ?_)
  refine lv_goto (tgt := 3) hx hb dX6_take_43 (by decide) ?_
  refine lv_iload_n hx hb dX6_take_3 rfl (lv_at hl 0 rfl) ?_
  refine lv_if_lt (tgt := 46) hx hb dX6_take_4 (by decide) (fun c9 => absurd c9 (by decide)) (fun _ => ?_)
  refine lv_aload_n hx hb dX6_take_7 rfl (lv_at hl 1 rfl) ?_
  refine va_get (D := D) (ci := 6) (v := .int 5) (C := RX6) (T := TX6) (N := 8) hx hb hts (fun w h => uc_in w (inX6 w h)) hown hK hP 0 rfl rfl 1 (by decide) (hts _ (uc_in _ q_f35)) (fun _ h9 => h9) rfl dX6_take_8 ?_
  refine lv_sipush (v := 800) hx hb dX6_take_11 (by decide) ?_
  refine lv_icmp_ge (tgt := 46) hx hb dX6_take_14 (by decide) (fun c9 => absurd c9 (by decide)) (fun _ => ?_)
  refine lv_aload_n hx hb dX6_take_17 rfl (lv_at hl 1 rfl) ?_
  refine va_get (D := D) (ci := 6) (v := .ref a1) (C := RX6) (T := TX6) (N := 8) hx hb hts (fun w h => uc_in w (inX6 w h)) hown hK hP 0 rfl rfl 0 (by decide) (hts _ (uc_in _ q_f33)) (fun _ h9 => h9) rfl dX6_take_18 ?_
  refine lv_aload_n hx hb dX6_take_21 rfl (lv_at hl 1 rfl) ?_
  refine va_get (D := D) (ci := 6) (v := .int 5) (C := RX6) (T := TX6) (N := 8) hx hb hts (fun w h => uc_in w (inX6 w h)) hown hK hP 0 rfl rfl 1 (by decide) (hts _ (uc_in _ q_f35)) (fun _ h9 => h9) rfl dX6_take_22 ?_
  refine lv_iload_n hx hb dX6_take_25 rfl (lv_at hl 2 rfl) ?_
  refine lv_iload_n hx hb dX6_take_26 rfl (lv_at hl 0 rfl) ?_
  refine lv_ishr hx hb dX6_take_27 ?_
  refine lv_topi (fun z4 ez4 => ?_)
  refine lv_i2b hx hb dX6_take_28 rfl ?_
  refine lv_topi (fun z5 ez5 => ?_)
  refine va_bast hx hb hK hP hD hS 1 0 rfl rfl (vp_in_iff.mpr ⟨by decide, by decide⟩) dX6_take_29 (fun H locs hP hD hS => ?_)
  obtain ⟨f6, ef6⟩ : ∃ f9, f9 = upd f3 5.toNatClampNeg (vp_nar .byte z5) := ⟨_, rfl⟩
  rw [← ef6] at hP hD
  have hP : va_P D vwCl [(a0, .inr (6, [.ref a1, .int 5, .int 0, .int (-1), .int 0, .int 0, .int 0, .int 0])), (a1, .inl (cB, 800, .inl f6))] H := hP
  have hD : va_D AA [(a0, .inr (6, [.ref a1, .int 5, .int 0, .int (-1), .int 0, .int 0, .int 0, .int 0])), (a1, .inl (cB, 800, .inl f6))] := hD
  refine lv_aload_n hx hb dX6_take_30 rfl (lv_at hl 1 rfl) ?_
  refine lv_dup hx hb dX6_take_31 rfl ?_
  refine va_get (D := D) (ci := 6) (v := .int 5) (C := RX6) (T := TX6) (N := 8) hx hb hts (fun w h => uc_in w (inX6 w h)) hown hK hP 0 rfl rfl 1 (by decide) (hts _ (uc_in _ q_f35)) (fun _ h9 => h9) rfl dX6_take_32 ?_
  refine lv_iconst (v := 1) hx hb dX6_take_35 (by decide) ?_
  refine lv_iadd hx hb dX6_take_36 ?_
  refine pv_i (v := 6) (by decide) ?_
  refine va_put (D := D) (ci := 6) (v := .int 6) (ty := .int) (C := RX6) (T := TX6) (N := 8) hx hb hts (fun w h => uc_in w (inX6 w h)) tyX6 tyX6_ok nmX6 hown hK hP hD hS 0 rfl rfl 1 (by decide) (hts _ (uc_in _ q_f35)) (fun _ h9 => h9) rfl (by decide +kernel) rfl rfl (Nat.le_of_ble_eq_true rfl) dX6_take_37 (fun H locs hP hD hS => ?_)
  have hP : va_P D vwCl [(a0, .inr (6, [.ref a1, .int 6, .int 0, .int (-1), .int 0, .int 0, .int 0, .int 0])), (a1, .inl (cB, 800, .inl f6))] H := hP
  have hD : va_D AA [(a0, .inr (6, [.ref a1, .int 6, .int 0, .int (-1), .int 0, .int 0, .int 0, .int 0])), (a1, .inl (cB, 800, .inl f6))] := hD
  refine lv_iinc (v := 8) (lv' := [(2, .int 8), (0, .ref a0), (1, .int x0)]) hx hb dX6_take_40 hl (k := 0) rfl (by decide) (by decide) rfl (fun ls hl => ?_)
  refine lv_goto (tgt := 3) hx hb dX6_take_43 (by decide) ?_
  refine lv_iload_n hx hb dX6_take_3 rfl (lv_at hl 0 rfl) ?_
  refine lv_if_lt (tgt := 46) hx hb dX6_take_4 (by decide) (fun c9 => absurd c9 (by decide)) (fun _ => ?_)
  refine lv_aload_n hx hb dX6_take_7 rfl (lv_at hl 1 rfl) ?_
  refine va_get (D := D) (ci := 6) (v := .int 6) (C := RX6) (T := TX6) (N := 8) hx hb hts (fun w h => uc_in w (inX6 w h)) hown hK hP 0 rfl rfl 1 (by decide) (hts _ (uc_in _ q_f35)) (fun _ h9 => h9) rfl dX6_take_8 ?_
  refine lv_sipush (v := 800) hx hb dX6_take_11 (by decide) ?_
  refine lv_icmp_ge (tgt := 46) hx hb dX6_take_14 (by decide) (fun c9 => absurd c9 (by decide)) (fun _ => ?_)
  refine lv_aload_n hx hb dX6_take_17 rfl (lv_at hl 1 rfl) ?_
  refine va_get (D := D) (ci := 6) (v := .ref a1) (C := RX6) (T := TX6) (N := 8) hx hb hts (fun w h => uc_in w (inX6 w h)) hown hK hP 0 rfl rfl 0 (by decide) (hts _ (uc_in _ q_f33)) (fun _ h9 => h9) rfl dX6_take_18 ?_
  refine lv_aload_n hx hb dX6_take_21 rfl (lv_at hl 1 rfl) ?_
  refine va_get (D := D) (ci := 6) (v := .int 6) (C := RX6) (T := TX6) (N := 8) hx hb hts (fun w h => uc_in w (inX6 w h)) hown hK hP 0 rfl rfl 1 (by decide) (hts _ (uc_in _ q_f35)) (fun _ h9 => h9) rfl dX6_take_22 ?_
  refine lv_iload_n hx hb dX6_take_25 rfl (lv_at hl 2 rfl) ?_
  refine lv_iload_n hx hb dX6_take_26 rfl (lv_at hl 0 rfl) ?_
  refine lv_ishr hx hb dX6_take_27 ?_
  refine lv_topi (fun z7 ez7 => ?_)
  refine lv_i2b hx hb dX6_take_28 rfl ?_
  refine lv_topi (fun z8 ez8 => ?_)
  refine va_bast hx hb hK hP hD hS 1 0 rfl rfl (vp_in_iff.mpr ⟨by decide, by decide⟩) dX6_take_29 (fun H locs hP hD hS => ?_)
  obtain ⟨f9, ef9⟩ : ∃ f9, f9 = upd f6 6.toNatClampNeg (vp_nar .byte z8) := ⟨_, rfl⟩
  rw [← ef9] at hP hD
  have hP : va_P D vwCl [(a0, .inr (6, [.ref a1, .int 6, .int 0, .int (-1), .int 0, .int 0, .int 0, .int 0])), (a1, .inl (cB, 800, .inl f9))] H := hP
  have hD : va_D AA [(a0, .inr (6, [.ref a1, .int 6, .int 0, .int (-1), .int 0, .int 0, .int 0, .int 0])), (a1, .inl (cB, 800, .inl f9))] := hD
  refine lv_aload_n hx hb dX6_take_30 rfl (lv_at hl 1 rfl) ?_
  refine lv_dup hx hb dX6_take_31 rfl ?_
  refine va_get (D := D) (ci := 6) (v := .int 6) (C := RX6) (T := TX6) (N := 8) hx hb hts (fun w h => uc_in w (inX6 w h)) hown hK hP 0 rfl rfl 1 (by decide) (hts _ (uc_in _ q_f35)) (fun _ h9 => h9) rfl dX6_take_32 ?_
  refine lv_iconst (v := 1) hx hb dX6_take_35 (by decide) ?_
  refine lv_iadd hx hb dX6_take_36 ?_
  refine pv_i (v := 7) (by decide) ?_
  refine va_put (D := D) (ci := 6) (v := .int 7) (ty := .int) (C := RX6) (T := TX6) (N := 8) hx hb hts (fun w h => uc_in w (inX6 w h)) tyX6 tyX6_ok nmX6 hown hK hP hD hS 0 rfl rfl 1 (by decide) (hts _ (uc_in _ q_f35)) (fun _ h9 => h9) rfl (by decide +kernel) rfl rfl (Nat.le_of_ble_eq_true rfl) dX6_take_37 (fun H locs hP hD hS => ?_)
  have hP : va_P D vwCl [(a0, .inr (6, [.ref a1, .int 7, .int 0, .int (-1), .int 0, .int 0, .int 0, .int 0])), (a1, .inl (cB, 800, .inl f9))] H := hP
  have hD : va_D AA [(a0, .inr (6, [.ref a1, .int 7, .int 0, .int (-1), .int 0, .int 0, .int 0, .int 0])), (a1, .inl (cB, 800, .inl f9))] := hD
  refine lv_iinc (v := 0) (lv' := [(2, .int 0), (0, .ref a0), (1, .int x0)]) hx hb dX6_take_40 hl (k := 0) rfl (by decide) (by decide) rfl (fun ls hl => ?_)
  refine lv_goto (tgt := 3) hx hb dX6_take_43 (by decide) ?_
  refine lv_iload_n hx hb dX6_take_3 rfl (lv_at hl 0 rfl) ?_
  refine lv_if_lt (tgt := 46) hx hb dX6_take_4 (by decide) (fun c9 => absurd c9 (by decide)) (fun _ => ?_)
  refine lv_aload_n hx hb dX6_take_7 rfl (lv_at hl 1 rfl) ?_
  refine va_get (D := D) (ci := 6) (v := .int 7) (C := RX6) (T := TX6) (N := 8) hx hb hts (fun w h => uc_in w (inX6 w h)) hown hK hP 0 rfl rfl 1 (by decide) (hts _ (uc_in _ q_f35)) (fun _ h9 => h9) rfl dX6_take_8 ?_
  refine lv_sipush (v := 800) hx hb dX6_take_11 (by decide) ?_
  refine lv_icmp_ge (tgt := 46) hx hb dX6_take_14 (by decide) (fun c9 => absurd c9 (by decide)) (fun _ => ?_)
  refine lv_aload_n hx hb dX6_take_17 rfl (lv_at hl 1 rfl) ?_
  refine va_get (D := D) (ci := 6) (v := .ref a1) (C := RX6) (T := TX6) (N := 8) hx hb hts (fun w h => uc_in w (inX6 w h)) hown hK hP 0 rfl rfl 0 (by decide) (hts _ (uc_in _ q_f33)) (fun _ h9 => h9) rfl dX6_take_18 ?_
  refine lv_aload_n hx hb dX6_take_21 rfl (lv_at hl 1 rfl) ?_
  refine va_get (D := D) (ci := 6) (v := .int 7) (C := RX6) (T := TX6) (N := 8) hx hb hts (fun w h => uc_in w (inX6 w h)) hown hK hP 0 rfl rfl 1 (by decide) (hts _ (uc_in _ q_f35)) (fun _ h9 => h9) rfl dX6_take_22 ?_
  refine lv_iload_n hx hb dX6_take_25 rfl (lv_at hl 2 rfl) ?_
  refine lv_iload_n hx hb dX6_take_26 rfl (lv_at hl 0 rfl) ?_
  refine lv_ishr hx hb dX6_take_27 ?_
  refine lv_topi (fun z10 ez10 => ?_)
  refine lv_i2b hx hb dX6_take_28 rfl ?_
  refine lv_topi (fun z11 ez11 => ?_)
  refine va_bast hx hb hK hP hD hS 1 0 rfl rfl (vp_in_iff.mpr ⟨by decide, by decide⟩) dX6_take_29 (fun H locs hP hD hS => ?_)
  obtain ⟨f12, ef12⟩ : ∃ f9, f9 = upd f9 7.toNatClampNeg (vp_nar .byte z11) := ⟨_, rfl⟩
  rw [← ef12] at hP hD
  have hP : va_P D vwCl [(a0, .inr (6, [.ref a1, .int 7, .int 0, .int (-1), .int 0, .int 0, .int 0, .int 0])), (a1, .inl (cB, 800, .inl f12))] H := hP
  have hD : va_D AA [(a0, .inr (6, [.ref a1, .int 7, .int 0, .int (-1), .int 0, .int 0, .int 0, .int 0])), (a1, .inl (cB, 800, .inl f12))] := hD
  refine lv_aload_n hx hb dX6_take_30 rfl (lv_at hl 1 rfl) ?_
  refine lv_dup hx hb dX6_take_31 rfl ?_
  refine va_get (D := D) (ci := 6) (v := .int 7) (C := RX6) (T := TX6) (N := 8) hx hb hts (fun w h => uc_in w (inX6 w h)) hown hK hP 0 rfl rfl 1 (by decide) (hts _ (uc_in _ q_f35)) (fun _ h9 => h9) rfl dX6_take_32 ?_
  refine lv_iconst (v := 1) hx hb dX6_take_35 (by decide) ?_
  refine lv_iadd hx hb dX6_take_36 ?_
  refine pv_i (v := 8) (by decide) ?_
  refine va_put (D := D) (ci := 6) (v := .int 8) (ty := .int) (C := RX6) (T := TX6) (N := 8) hx hb hts (fun w h => uc_in w (inX6 w h)) tyX6 tyX6_ok nmX6 hown hK hP hD hS 0 rfl rfl 1 (by decide) (hts _ (uc_in _ q_f35)) (fun _ h9 => h9) rfl (by decide +kernel) rfl rfl (Nat.le_of_ble_eq_true rfl) dX6_take_37 (fun H locs hP hD hS => ?_)
  have hP : va_P D vwCl [(a0, .inr (6, [.ref a1, .int 8, .int 0, .int (-1), .int 0, .int 0, .int 0, .int 0])), (a1, .inl (cB, 800, .inl f12))] H := hP
  have hD : va_D AA [(a0, .inr (6, [.ref a1, .int 8, .int 0, .int (-1), .int 0, .int 0, .int 0, .int 0])), (a1, .inl (cB, 800, .inl f12))] := hD
  refine lv_iinc (v := (-8)) (lv' := [(2, .int (-8)), (0, .ref a0), (1, .int x0)]) hx hb dX6_take_40 hl (k := 0) rfl (by decide) (by decide) rfl (fun ls hl => ?_)
  refine lv_goto (tgt := 3) hx hb dX6_take_43 (by decide) ?_
  refine lv_iload_n hx hb dX6_take_3 rfl (lv_at hl 0 rfl) ?_
  refine lv_if_lt (tgt := 46) hx hb dX6_take_4 (by decide) (fun _ => ?_) (fun c9 => absurd (by decide) c9)
  subst hAe
  have hP9 := hP.sub (ws' := [(a0, .inr (6, [.ref a1, .int 8, .int 0, .int (-1), .int 0, .int 0, .int 0, .int 0])), (a1, .inl (cB, 800, .inl f12))]) [0, 1] rfl
  have hD9 := hD.sub (ws' := [(a0, .inr (6, [.ref a1, .int 8, .int 0, .int (-1), .int 0, .int 0, .int 0, .int 0])), (a1, .inl (cB, 800, .inl f12))]) [0, 1] rfl rfl
  exact W.vret hx hb hr (fun t ht hW => ⟨⟨f12, rfl, trivial, by rw [ht]; exact hP9, va_K.moved hW.alike hK, hD9⟩, hS.F ht⟩) hS.2.2 dX6_take_46
set_option maxHeartbeats 4000000 in
set_option maxRecDepth 100000 in
theorem kX6_take_2 (l : Launch) (D : va_G) (cB cI cJ cZ cT cR : ClassId) (a0 a1 : Nat) (x0 : Int32) (f90 : Nat → Int32) (sz : Nat) : Met l yX6_take (uc yX6_take cX6_take 3 none) (rmL 1 0 0) (va_Pc [.ref a0, .int x0] (MPre D [(cB, .byte), (cI, .int), (cJ, .long), (cZ, .boolean), (cT, .object RX7), (cR, .object RX3)] [(a0, .inr (6, [.ref a1, .int 8, .int 0, .int (-1), .int 0, .int 0, .int 0, .int 0])), (a1, .inl (cB, 800, .inl f90))] sz)) (va_Qv (fun (_ : (Nat → Int32)) => True) (MB D [(cB, .byte), (cI, .int), (cJ, .long), (cZ, .boolean), (cT, .object RX7), (cR, .object RX3)] [(a0, .inr (6, [.ref a1, .int 8, .int 0, .int (-1), .int 0, .int 0, .int 0, .int 0])), (a1, .inl (cB, 800, .inl f90))] sz (fun (u : (Nat → Int32)) => [(a0, .inr (6, [.ref a1, .int 12, .int 0, .int (-1), .int 0, .int 0, .int 0, .int 0])), (a1, .inl (cB, 800, .inl u))])) (va_A [(a0, .inr (6, [.ref a1, .int 8, .int 0, .int (-1), .int 0, .int 0, .int 0, .int 0])), (a1, .inl (cB, 800, .inl f90))] sz)) 0 0 (va_A [(a0, .inr (6, [.ref a1, .int 8, .int 0, .int (-1), .int 0, .int 0, .int 0, .int 0])), (a1, .inl (cB, 800, .inl f90))] sz) := by
  refine pm (by decide) (Nat.le_of_ble_eq_true rfl) ?_
  intro p e s m below meth c ls hx hb hr hml hown hlk hnm hts hv hl
  have hown : s.vm.findClass RX6 = some m.cls := hown
  have hl : lv_has ls 3 [(0, .ref a0), (1, .int x0)] := hl
  obtain ⟨hsz, hP, hK, hD0, hE⟩ := hv
  subst hsz
  have hD := hD0.self (sz := s.heap.size)
  obtain ⟨AA, hAe⟩ : ∃ AA, AA = va_A [(a0, .inr (6, [.ref a1, .int 8, .int 0, .int (-1), .int 0, .int 0, .int 0, .int 0])), (a1, .inl (cB, 800, .inl f90))] s.heap.size := ⟨_, rfl⟩
  rw [← hAe] at hD
  have hA : ∀ q : Nat, s.heap.size ≤ q → AA q := fun q h => by rw [hAe]; exact Or.inr h
  have hS : va_S AA s.heap s.heap [] := va_S.rf
  obtain ⟨-, hAOT, hAOR, hAOI⟩ := id hE
  refine lv_bipush (v := 24) hx hb dX6_take_0 (by decide) ?_
  refine lv_istore_n (lv' := [(2, .int 24), (0, .ref a0), (1, .int x0)]) hx hb dX6_take_2 rfl hl (by decide) rfl (fun ls hl => ?_)
  refine lv_iload_n hx hb dX6_take_3 rfl (lv_at hl 0 rfl) ?_
  refine lv_if_lt (tgt := 46) hx hb dX6_take_4 (by decide) (fun c9 => absurd c9 (by decide)) (fun _ => ?_)
  refine lv_aload_n hx hb dX6_take_7 rfl (lv_at hl 1 rfl) ?_
  refine va_get (D := D) (ci := 6) (v := .int 8) (C := RX6) (T := TX6) (N := 8) hx hb hts (fun w h => uc_in w (inX6 w h)) hown hK hP 0 rfl rfl 1 (by decide) (hts _ (uc_in _ q_f35)) (fun _ h9 => h9) rfl dX6_take_8 ?_
  refine lv_sipush (v := 800) hx hb dX6_take_11 (by decide) ?_
  refine lv_icmp_ge (tgt := 46) hx hb dX6_take_14 (by decide) (fun c9 => absurd c9 (by decide)) (fun _ => ?_)
  refine lv_aload_n hx hb dX6_take_17 rfl (lv_at hl 1 rfl) ?_
  refine va_get (D := D) (ci := 6) (v := .ref a1) (C := RX6) (T := TX6) (N := 8) hx hb hts (fun w h => uc_in w (inX6 w h)) hown hK hP 0 rfl rfl 0 (by decide) (hts _ (uc_in _ q_f33)) (fun _ h9 => h9) rfl dX6_take_18 ?_
  refine lv_aload_n hx hb dX6_take_21 rfl (lv_at hl 1 rfl) ?_
  refine va_get (D := D) (ci := 6) (v := .int 8) (C := RX6) (T := TX6) (N := 8) hx hb hts (fun w h => uc_in w (inX6 w h)) hown hK hP 0 rfl rfl 1 (by decide) (hts _ (uc_in _ q_f35)) (fun _ h9 => h9) rfl dX6_take_22 ?_
  refine lv_iload_n hx hb dX6_take_25 rfl (lv_at hl 2 rfl) ?_
  refine lv_iload_n hx hb dX6_take_26 rfl (lv_at hl 0 rfl) ?_
  refine lv_ishr hx hb dX6_take_27 ?_
  refine lv_topi (fun z1 ez1 => ?_)
  refine lv_i2b hx hb dX6_take_28 rfl ?_
  refine lv_topi (fun z2 ez2 => ?_)
  refine va_bast hx hb hK hP hD hS 1 0 rfl rfl (vp_in_iff.mpr ⟨by decide, by decide⟩) dX6_take_29 (fun H locs hP hD hS => ?_)
  obtain ⟨f3, ef3⟩ : ∃ f9, f9 = upd f90 8.toNatClampNeg (vp_nar .byte z2) := ⟨_, rfl⟩
  rw [← ef3] at hP hD
  have hP : va_P D vwCl [(a0, .inr (6, [.ref a1, .int 8, .int 0, .int (-1), .int 0, .int 0, .int 0, .int 0])), (a1, .inl (cB, 800, .inl f3))] H := hP
  have hD : va_D AA [(a0, .inr (6, [.ref a1, .int 8, .int 0, .int (-1), .int 0, .int 0, .int 0, .int 0])), (a1, .inl (cB, 800, .inl f3))] := hD
  refine lv_aload_n hx hb dX6_take_30 rfl (lv_at hl 1 rfl) ?_
  refine lv_dup hx hb dX6_take_31 rfl ?_
  refine va_get (D := D) (ci := 6) (v := .int 8) (C := RX6) (T := TX6) (N := 8) hx hb hts (fun w h => uc_in w (inX6 w h)) hown hK hP 0 rfl rfl 1 (by decide) (hts _ (uc_in _ q_f35)) (fun _ h9 => h9) rfl dX6_take_32 ?_
  refine lv_iconst (v := 1) hx hb dX6_take_35 (by decide) ?_
  refine lv_iadd hx hb dX6_take_36 ?_
  refine pv_i (v := 9) (by decide) ?_
  refine va_put (D := D) (ci := 6) (v := .int 9) (ty := .int) (C := RX6) (T := TX6) (N := 8) hx hb hts (fun w h => uc_in w (inX6 w h)) tyX6 tyX6_ok nmX6 hown hK hP hD hS 0 rfl rfl 1 (by decide) (hts _ (uc_in _ q_f35)) (fun _ h9 => h9) rfl (by decide +kernel) rfl rfl (Nat.le_of_ble_eq_true rfl) dX6_take_37 (fun H locs hP hD hS => ?_)
  have hP : va_P D vwCl [(a0, .inr (6, [.ref a1, .int 9, .int 0, .int (-1), .int 0, .int 0, .int 0, .int 0])), (a1, .inl (cB, 800, .inl f3))] H := hP
  have hD : va_D AA [(a0, .inr (6, [.ref a1, .int 9, .int 0, .int (-1), .int 0, .int 0, .int 0, .int 0])), (a1, .inl (cB, 800, .inl f3))] := hD
  refine lv_iinc (v := 16) (lv' := [(2, .int 16), (0, .ref a0), (1, .int x0)]) hx hb dX6_take_40 hl (k := 0) rfl (by decide) (by decide) rfl (fun ls hl => ?_)
  refine lv_goto (tgt := 3) hx hb dX6_take_43 (by decide) ?_
  refine lv_iload_n hx hb dX6_take_3 rfl (lv_at hl 0 rfl) ?_
  refine lv_if_lt (tgt := 46) hx hb dX6_take_4 (by decide) (fun c9 => absurd c9 (by decide)) (fun _ => ?_)
  refine lv_aload_n hx hb dX6_take_7 rfl (lv_at hl 1 rfl) ?_
  refine va_get (D := D) (ci := 6) (v := .int 9) (C := RX6) (T := TX6) (N := 8) hx hb hts (fun w h => uc_in w (inX6 w h)) hown hK hP 0 rfl rfl 1 (by decide) (hts _ (uc_in _ q_f35)) (fun _ h9 => h9) rfl dX6_take_8 ?_
  refine lv_sipush (v := 800) hx hb dX6_take_11 (by decide) ?_
  refine lv_icmp_ge (tgt := 46) hx hb dX6_take_14 (by decide) (fun c9 => absurd c9 (by decide)) (fun _ => ?_)
  refine lv_aload_n hx hb dX6_take_17 rfl (lv_at hl 1 rfl) ?_
  refine va_get (D := D) (ci := 6) (v := .ref a1) (C := RX6) (T := TX6) (N := 8) hx hb hts (fun w h => uc_in w (inX6 w h)) hown hK hP 0 rfl rfl 0 (by decide) (hts _ (uc_in _ q_f33)) (fun _ h9 => h9) rfl dX6_take_18 ?_
  refine lv_aload_n hx hb dX6_take_21 rfl (lv_at hl 1 rfl) ?_
  refine va_get (D := D) (ci := 6) (v := .int 9) (C := RX6) (T := TX6) (N := 8) hx hb hts (fun w h => uc_in w (inX6 w h)) hown hK hP 0 rfl rfl 1 (by decide) (hts _ (uc_in _ q_f35)) (fun _ h9 => h9) rfl dX6_take_22 ?_
  refine lv_iload_n hx hb dX6_take_25 rfl (lv_at hl 2 rfl) ?_
  refine lv_iload_n hx hb dX6_take_26 rfl (lv_at hl 0 rfl) ?_
  refine lv_ishr hx hb dX6_take_27 ?_
  refine lv_topi (fun z4 ez4 => ?_)
  refine lv_i2b hx hb dX6_take_28 rfl ?_
  refine lv_topi (fun z5 ez5 => ?_)
  refine va_bast hx hb hK hP hD hS 1 0 rfl rfl (vp_in_iff.mpr ⟨by decide, by decide⟩) dX6_take_29 (fun H locs hP hD hS => ?_)
  obtain ⟨f6, ef6⟩ : ∃ f9, f9 = upd f3 9.toNatClampNeg (vp_nar .byte z5) := ⟨_, rfl⟩
  rw [← ef6] at hP hD
  have hP : va_P D vwCl [(a0, .inr (6, [.ref a1, .int 9, .int 0, .int (-1), .int 0, .int 0, .int 0, .int 0])), (a1, .inl (cB, 800, .inl f6))] H := hP
  have hD : va_D AA [(a0, .inr (6, [.ref a1, .int 9, .int 0, .int (-1), .int 0, .int 0, .int 0, .int 0])), (a1, .inl (cB, 800, .inl f6))] := hD
  refine lv_aload_n hx hb dX6_take_30 rfl (lv_at hl 1 rfl) ?_
  refine lv_dup hx hb dX6_take_31 rfl ?_
  refine va_get (D := D) (ci := 6) (v := .int 9) (C := RX6) (T := TX6) (N := 8) hx hb hts (fun w h => uc_in w (inX6 w h)) hown hK hP 0 rfl rfl 1 (by decide) (hts _ (uc_in _ q_f35)) (fun _ h9 => h9) rfl dX6_take_32 ?_
  refine lv_iconst (v := 1) hx hb dX6_take_35 (by decide) ?_
  refine lv_iadd hx hb dX6_take_36 ?_
  refine pv_i (v := 10) (by decide) ?_
  refine va_put (D := D) (ci := 6) (v := .int 10) (ty := .int) (C := RX6) (T := TX6) (N := 8) hx hb hts (fun w h => uc_in w (inX6 w h)) tyX6 tyX6_ok nmX6 hown hK hP hD hS 0 rfl rfl 1 (by decide) (hts _ (uc_in _ q_f35)) (fun _ h9 => h9) rfl (by decide +kernel) rfl rfl (Nat.le_of_ble_eq_true rfl) dX6_take_37 (fun H locs hP hD hS => ?_)
  have hP : va_P D vwCl [(a0, .inr (6, [.ref a1, .int 10, .int 0, .int (-1), .int 0, .int 0, .int 0, .int 0])), (a1, .inl (cB, 800, .inl f6))] H := hP
  have hD : va_D AA [(a0, .inr (6, [.ref a1, .int 10, .int 0, .int (-1), .int 0, .int 0, .int 0, .int 0])), (a1, .inl (cB, 800, .inl f6))] := hD
  refine lv_iinc (v := 8) (lv' := [(2, .int 8), (0, .ref a0), (1, .int x0)]) hx hb dX6_take_40 hl (k := 0) rfl (by decide) (by decide) rfl (fun ls hl => ?_)
  refine lv_goto (tgt := 3) hx hb dX6_take_43 (by decide) ?_
  refine lv_iload_n hx hb dX6_take_3 rfl (lv_at hl 0 rfl) ?_
  refine lv_if_lt (tgt := 46) hx hb dX6_take_4 (by decide) (fun c9 => absurd c9 (by decide)) (fun _ => ?_)
  refine lv_aload_n hx hb dX6_take_7 rfl (lv_at hl 1 rfl) ?_
  refine va_get (D := D) (ci := 6) (v := .int 10) (C := RX6) (T := TX6) (N := 8) hx hb hts (fun w h => uc_in w (inX6 w h)) hown hK hP 0 rfl rfl 1 (by decide) (hts _ (uc_in _ q_f35)) (fun _ h9 => h9) rfl dX6_take_8 ?_
  refine lv_sipush (v := 800) hx hb dX6_take_11 (by decide) ?_
  refine lv_icmp_ge (tgt := 46) hx hb dX6_take_14 (by decide) (fun c9 => absurd c9 (by decide)) (fun _ => ?_)
  refine lv_aload_n hx hb dX6_take_17 rfl (lv_at hl 1 rfl) ?_
  refine va_get (D := D) (ci := 6) (v := .ref a1) (C := RX6) (T := TX6) (N := 8) hx hb hts (fun w h => uc_in w (inX6 w h)) hown hK hP 0 rfl rfl 0 (by decide) (hts _ (uc_in _ q_f33)) (fun _ h9 => h9) rfl dX6_take_18 ?_
  refine lv_aload_n hx hb dX6_take_21 rfl (lv_at hl 1 rfl) ?_
  refine va_get (D := D) (ci := 6) (v := .int 10) (C := RX6) (T := TX6) (N := 8) hx hb hts (fun w h => uc_in w (inX6 w h)) hown hK hP 0 rfl rfl 1 (by decide) (hts _ (uc_in _ q_f35)) (fun _ h9 => h9) rfl dX6_take_22 ?_
  refine lv_iload_n hx hb dX6_take_25 rfl (lv_at hl 2 rfl) ?_
  refine lv_iload_n hx hb dX6_take_26 rfl (lv_at hl 0 rfl) ?_
  refine lv_ishr hx hb dX6_take_27 ?_
  refine lv_topi (fun z7 ez7 => ?_)
  refine lv_i2b hx hb dX6_take_28 rfl ?_
  refine lv_topi (fun z8 ez8 => ?_)
  refine va_bast hx hb hK hP hD hS 1 0 rfl rfl (vp_in_iff.mpr ⟨by decide, by decide⟩) dX6_take_29 (fun H locs hP hD hS => ?_)
  obtain ⟨f9, ef9⟩ : ∃ f9, f9 = upd f6 10.toNatClampNeg (vp_nar .byte z8) := ⟨_, rfl⟩
  rw [← ef9] at hP hD
  have hP : va_P D vwCl [(a0, .inr (6, [.ref a1, .int 10, .int 0, .int (-1), .int 0, .int 0, .int 0, .int 0])), (a1, .inl (cB, 800, .inl f9))] H := hP
  have hD : va_D AA [(a0, .inr (6, [.ref a1, .int 10, .int 0, .int (-1), .int 0, .int 0, .int 0, .int 0])), (a1, .inl (cB, 800, .inl f9))] := hD
  refine lv_aload_n hx hb dX6_take_30 rfl (lv_at hl 1 rfl) ?_
  refine lv_dup hx hb dX6_take_31 rfl ?_
  refine va_get (D := D) (ci := 6) (v := .int 10) (C := RX6) (T := TX6) (N := 8) hx hb hts (fun w h => uc_in w (inX6 w h)) hown hK hP 0 rfl rfl 1 (by decide) (hts _ (uc_in _ q_f35)) (fun _ h9 => h9) rfl dX6_take_32 ?_
  refine lv_iconst (v := 1) hx hb dX6_take_35 (by decide) ?_
  refine lv_iadd hx hb dX6_take_36 ?_
  refine pv_i (v := 11) (by decide) ?_
  refine va_put (D := D) (ci := 6) (v := .int 11) (ty := .int) (C := RX6) (T := TX6) (N := 8) hx hb hts (fun w h => uc_in w (inX6 w h)) tyX6 tyX6_ok nmX6 hown hK hP hD hS 0 rfl rfl 1 (by decide) (hts _ (uc_in _ q_f35)) (fun _ h9 => h9) rfl (by decide +kernel) rfl rfl (Nat.le_of_ble_eq_true rfl) dX6_take_37 (fun H locs hP hD hS => ?_)
  have hP : va_P D vwCl [(a0, .inr (6, [.ref a1, .int 11, .int 0, .int (-1), .int 0, .int 0, .int 0, .int 0])), (a1, .inl (cB, 800, .inl f9))] H := hP
  have hD : va_D AA [(a0, .inr (6, [.ref a1, .int 11, .int 0, .int (-1), .int 0, .int 0, .int 0, .int 0])), (a1, .inl (cB, 800, .inl f9))] := hD
  refine lv_iinc (v := 0) (lv' := [(2, .int 0), (0, .ref a0), (1, .int x0)]) hx hb dX6_take_40 hl (k := 0) rfl (by decide) (by decide) rfl (fun ls hl => ?_)
  refine lv_goto (tgt := 3) hx hb dX6_take_43 (by decide) ?_
  refine lv_iload_n hx hb dX6_take_3 rfl (lv_at hl 0 rfl) ?_
  refine lv_if_lt (tgt := 46) hx hb dX6_take_4 (by decide) (fun c9 => absurd c9 (by decide)) (fun _ => ?_)
  refine lv_aload_n hx hb dX6_take_7 rfl (lv_at hl 1 rfl) ?_
  refine va_get (D := D) (ci := 6) (v := .int 11) (C := RX6) (T := TX6) (N := 8) hx hb hts (fun w h => uc_in w (inX6 w h)) hown hK hP 0 rfl rfl 1 (by decide) (hts _ (uc_in _ q_f35)) (fun _ h9 => h9) rfl dX6_take_8 ?_
  refine lv_sipush (v := 800) hx hb dX6_take_11 (by decide) ?_
  refine lv_icmp_ge (tgt := 46) hx hb dX6_take_14 (by decide) (fun c9 => absurd c9 (by decide)) (fun _ => ?_)
  refine lv_aload_n hx hb dX6_take_17 rfl (lv_at hl 1 rfl) ?_
  refine va_get (D := D) (ci := 6) (v := .ref a1) (C := RX6) (T := TX6) (N := 8) hx hb hts (fun w h => uc_in w (inX6 w h)) hown hK hP 0 rfl rfl 0 (by decide) (hts _ (uc_in _ q_f33)) (fun _ h9 => h9) rfl dX6_take_18 ?_
  refine lv_aload_n hx hb dX6_take_21 rfl (lv_at hl 1 rfl) ?_
  refine va_get (D := D) (ci := 6) (v := .int 11) (C := RX6) (T := TX6) (N := 8) hx hb hts (fun w h => uc_in w (inX6 w h)) hown hK hP 0 rfl rfl 1 (by decide) (hts _ (uc_in _ q_f35)) (fun _ h9 => h9) rfl dX6_take_22 ?_
  refine lv_iload_n hx hb dX6_take_25 rfl (lv_at hl 2 rfl) ?_
  refine lv_iload_n hx hb dX6_take_26 rfl (lv_at hl 0 rfl) ?_
  refine lv_ishr hx hb dX6_take_27 ?_
  refine lv_topi (fun z10 ez10 => ?_)
  refine lv_i2b hx hb dX6_take_28 rfl ?_
  refine lv_topi (fun z11 ez11 => ?_)
  refine va_bast hx hb hK hP hD hS 1 0 rfl rfl (vp_in_iff.mpr ⟨by decide, by decide⟩) dX6_take_29 (fun H locs hP hD hS => ?_)
  obtain ⟨f12, ef12⟩ : ∃ f9, f9 = upd f9 11.toNatClampNeg (vp_nar .byte z11) := ⟨_, rfl⟩
  rw [← ef12] at hP hD
  have hP : va_P D vwCl [(a0, .inr (6, [.ref a1, .int 11, .int 0, .int (-1), .int 0, .int 0, .int 0, .int 0])), (a1, .inl (cB, 800, .inl f12))] H := hP
  have hD : va_D AA [(a0, .inr (6, [.ref a1, .int 11, .int 0, .int (-1), .int 0, .int 0, .int 0, .int 0])), (a1, .inl (cB, 800, .inl f12))] := hD
  refine lv_aload_n hx hb dX6_take_30 rfl (lv_at hl 1 rfl) ?_
  refine lv_dup hx hb dX6_take_31 rfl ?_
  refine va_get (D := D) (ci := 6) (v := .int 11) (C := RX6) (T := TX6) (N := 8) hx hb hts (fun w h => uc_in w (inX6 w h)) hown hK hP 0 rfl rfl 1 (by decide) (hts _ (uc_in _ q_f35)) (fun _ h9 => h9) rfl dX6_take_32 ?_
  refine lv_iconst (v := 1) hx hb dX6_take_35 (by decide) ?_
  refine lv_iadd hx hb dX6_take_36 ?_
  refine pv_i (v := 12) (by decide) ?_
  refine va_put (D := D) (ci := 6) (v := .int 12) (ty := .int) (C := RX6) (T := TX6) (N := 8) hx hb hts (fun w h => uc_in w (inX6 w h)) tyX6 tyX6_ok nmX6 hown hK hP hD hS 0 rfl rfl 1 (by decide) (hts _ (uc_in _ q_f35)) (fun _ h9 => h9) rfl (by decide +kernel) rfl rfl (Nat.le_of_ble_eq_true rfl) dX6_take_37 (fun H locs hP hD hS => ?_)
  have hP : va_P D vwCl [(a0, .inr (6, [.ref a1, .int 12, .int 0, .int (-1), .int 0, .int 0, .int 0, .int 0])), (a1, .inl (cB, 800, .inl f12))] H := hP
  have hD : va_D AA [(a0, .inr (6, [.ref a1, .int 12, .int 0, .int (-1), .int 0, .int 0, .int 0, .int 0])), (a1, .inl (cB, 800, .inl f12))] := hD
  refine lv_iinc (v := (-8)) (lv' := [(2, .int (-8)), (0, .ref a0), (1, .int x0)]) hx hb dX6_take_40 hl (k := 0) rfl (by decide) (by decide) rfl (fun ls hl => ?_)
  refine lv_goto (tgt := 3) hx hb dX6_take_43 (by decide) ?_
  refine lv_iload_n hx hb dX6_take_3 rfl (lv_at hl 0 rfl) ?_
  refine lv_if_lt (tgt := 46) hx hb dX6_take_4 (by decide) (fun _ => ?_) (fun c9 => absurd (by decide) c9)
  subst hAe
  have hP9 := hP.sub (ws' := [(a0, .inr (6, [.ref a1, .int 12, .int 0, .int (-1), .int 0, .int 0, .int 0, .int 0])), (a1, .inl (cB, 800, .inl f12))]) [0, 1] rfl
  have hD9 := hD.sub (ws' := [(a0, .inr (6, [.ref a1, .int 12, .int 0, .int (-1), .int 0, .int 0, .int 0, .int 0])), (a1, .inl (cB, 800, .inl f12))]) [0, 1] rfl rfl
  exact W.vret hx hb hr (fun t ht hW => ⟨⟨f12, rfl, trivial, by rw [ht]; exact hP9, va_K.moved hW.alike hK, hD9⟩, hS.F ht⟩) hS.2.2 dX6_take_46
set_option maxHeartbeats 4000000 in
set_option maxRecDepth 100000 in
theorem kX6_take_3 (l : Launch) (D : va_G) (cB cI cJ cZ cT cR : ClassId) (a0 a1 : Nat) (x0 : Int32) (f90 : Nat → Int32) (sz : Nat) : Met l yX6_take (uc yX6_take cX6_take 3 none) (rmL 1 0 0) (va_Pc [.ref a0, .int x0] (MPre D [(cB, .byte), (cI, .int), (cJ, .long), (cZ, .boolean), (cT, .object RX7), (cR, .object RX3)] [(a0, .inr (6, [.ref a1, .int 12, .int 0, .int (-1), .int 0, .int 0, .int 0, .int 0])), (a1, .inl (cB, 800, .inl f90))] sz)) (va_Qv (fun (_ : (Nat → Int32)) => True) (MB D [(cB, .byte), (cI, .int), (cJ, .long), (cZ, .boolean), (cT, .object RX7), (cR, .object RX3)] [(a0, .inr (6, [.ref a1, .int 12, .int 0, .int (-1), .int 0, .int 0, .int 0, .int 0])), (a1, .inl (cB, 800, .inl f90))] sz (fun (u : (Nat → Int32)) => [(a0, .inr (6, [.ref a1, .int 16, .int 0, .int (-1), .int 0, .int 0, .int 0, .int 0])), (a1, .inl (cB, 800, .inl u))])) (va_A [(a0, .inr (6, [.ref a1, .int 12, .int 0, .int (-1), .int 0, .int 0, .int 0, .int 0])), (a1, .inl (cB, 800, .inl f90))] sz)) 0 0 (va_A [(a0, .inr (6, [.ref a1, .int 12, .int 0, .int (-1), .int 0, .int 0, .int 0, .int 0])), (a1, .inl (cB, 800, .inl f90))] sz) := by
  refine pm (by decide) (Nat.le_of_ble_eq_true rfl) ?_
  intro p e s m below meth c ls hx hb hr hml hown hlk hnm hts hv hl
  have hown : s.vm.findClass RX6 = some m.cls := hown
  have hl : lv_has ls 3 [(0, .ref a0), (1, .int x0)] := hl
  obtain ⟨hsz, hP, hK, hD0, hE⟩ := hv
  subst hsz
  have hD := hD0.self (sz := s.heap.size)
  obtain ⟨AA, hAe⟩ : ∃ AA, AA = va_A [(a0, .inr (6, [.ref a1, .int 12, .int 0, .int (-1), .int 0, .int 0, .int 0, .int 0])), (a1, .inl (cB, 800, .inl f90))] s.heap.size := ⟨_, rfl⟩
  rw [← hAe] at hD
  have hA : ∀ q : Nat, s.heap.size ≤ q → AA q := fun q h => by rw [hAe]; exact Or.inr h
  have hS : va_S AA s.heap s.heap [] := va_S.rf
  obtain ⟨-, hAOT, hAOR, hAOI⟩ := id hE
  refine lv_bipush (v := 24) hx hb dX6_take_0 (by decide) ?_
  refine lv_istore_n (lv' := [(2, .int 24), (0, .ref a0), (1, .int x0)]) hx hb dX6_take_2 rfl hl (by decide) rfl (fun ls hl => ?_)
  refine lv_iload_n hx hb dX6_take_3 rfl (lv_at hl 0 rfl) ?_
  refine lv_if_lt (tgt := 46) hx hb dX6_take_4 (by decide) (fun c9 => absurd c9 (by decide)) (fun _ => ?_)
  refine lv_aload_n hx hb dX6_take_7 rfl (lv_at hl 1 rfl) ?_
  refine va_get (D := D) (ci := 6) (v := .int 12) (C := RX6) (T := TX6) (N := 8) hx hb hts (fun w h => uc_in w (inX6 w h)) hown hK hP 0 rfl rfl 1 (by decide) (hts _ (uc_in _ q_f35)) (fun _ h9 => h9) rfl dX6_take_8 ?_
  refine lv_sipush (v := 800) hx hb dX6_take_11 (by decide) ?_
  refine lv_icmp_ge (tgt := 46) hx hb dX6_take_14 (by decide) (fun c9 => absurd c9 (by decide)) (fun _ => ?_)
  refine lv_aload_n hx hb dX6_take_17 rfl (lv_at hl 1 rfl) ?_
  refine va_get (D := D) (ci := 6) (v := .ref a1) (C := RX6) (T := TX6) (N := 8) hx hb hts (fun w h => uc_in w (inX6 w h)) hown hK hP 0 rfl rfl 0 (by decide) (hts _ (uc_in _ q_f33)) (fun _ h9 => h9) rfl dX6_take_18 ?_
  refine lv_aload_n hx hb dX6_take_21 rfl (lv_at hl 1 rfl) ?_
  refine va_get (D := D) (ci := 6) (v := .int 12) (C := RX6) (T := TX6) (N := 8) hx hb hts (fun w h => uc_in w (inX6 w h)) hown hK hP 0 rfl rfl 1 (by decide) (hts _ (uc_in _ q_f35)) (fun _ h9 => h9) rfl dX6_take_22 ?_
  refine lv_iload_n hx hb dX6_take_25 rfl (lv_at hl 2 rfl) ?_
  refine lv_iload_n hx hb dX6_take_26 rfl (lv_at hl 0 rfl) ?_
  refine lv_ishr hx hb dX6_take_27 ?_
  refine lv_topi (fun z1 ez1 => ?_)
  refine lv_i2b hx hb dX6_take_28 rfl ?_
  refine lv_topi (fun z2 ez2 => ?_)
  refine va_bast hx hb hK hP hD hS 1 0 rfl rfl (vp_in_iff.mpr ⟨by decide, by decide⟩) dX6_take_29 (fun H locs hP hD hS => ?_)
  obtain ⟨f3, ef3⟩ : ∃ f9, f9 = upd f90 12.toNatClampNeg (vp_nar .byte z2) := ⟨_, rfl⟩
  rw [← ef3] at hP hD
  have hP : va_P D vwCl [(a0, .inr (6, [.ref a1, .int 12, .int 0, .int (-1), .int 0, .int 0, .int 0, .int 0])), (a1, .inl (cB, 800, .inl f3))] H := hP
  have hD : va_D AA [(a0, .inr (6, [.ref a1, .int 12, .int 0, .int (-1), .int 0, .int 0, .int 0, .int 0])), (a1, .inl (cB, 800, .inl f3))] := hD
  refine lv_aload_n hx hb dX6_take_30 rfl (lv_at hl 1 rfl) ?_
  refine lv_dup hx hb dX6_take_31 rfl ?_
  refine va_get (D := D) (ci := 6) (v := .int 12) (C := RX6) (T := TX6) (N := 8) hx hb hts (fun w h => uc_in w (inX6 w h)) hown hK hP 0 rfl rfl 1 (by decide) (hts _ (uc_in _ q_f35)) (fun _ h9 => h9) rfl dX6_take_32 ?_
  refine lv_iconst (v := 1) hx hb dX6_take_35 (by decide) ?_
  refine lv_iadd hx hb dX6_take_36 ?_
  refine pv_i (v := 13) (by decide) ?_
  refine va_put (D := D) (ci := 6) (v := .int 13) (ty := .int) (C := RX6) (T := TX6) (N := 8) hx hb hts (fun w h => uc_in w (inX6 w h)) tyX6 tyX6_ok nmX6 hown hK hP hD hS 0 rfl rfl 1 (by decide) (hts _ (uc_in _ q_f35)) (fun _ h9 => h9) rfl (by decide +kernel) rfl rfl (Nat.le_of_ble_eq_true rfl) dX6_take_37 (fun H locs hP hD hS => ?_)
  have hP : va_P D vwCl [(a0, .inr (6, [.ref a1, .int 13, .int 0, .int (-1), .int 0, .int 0, .int 0, .int 0])), (a1, .inl (cB, 800, .inl f3))] H := hP
  have hD : va_D AA [(a0, .inr (6, [.ref a1, .int 13, .int 0, .int (-1), .int 0, .int 0, .int 0, .int 0])), (a1, .inl (cB, 800, .inl f3))] := hD
  refine lv_iinc (v := 16) (lv' := [(2, .int 16), (0, .ref a0), (1, .int x0)]) hx hb dX6_take_40 hl (k := 0) rfl (by decide) (by decide) rfl (fun ls hl => ?_)
  refine lv_goto (tgt := 3) hx hb dX6_take_43 (by decide) ?_
  refine lv_iload_n hx hb dX6_take_3 rfl (lv_at hl 0 rfl) ?_
  refine lv_if_lt (tgt := 46) hx hb dX6_take_4 (by decide) (fun c9 => absurd c9 (by decide)) (fun _ => ?_)
  refine lv_aload_n hx hb dX6_take_7 rfl (lv_at hl 1 rfl) ?_
  refine va_get (D := D) (ci := 6) (v := .int 13) (C := RX6) (T := TX6) (N := 8) hx hb hts (fun w h => uc_in w (inX6 w h)) hown hK hP 0 rfl rfl 1 (by decide) (hts _ (uc_in _ q_f35)) (fun _ h9 => h9) rfl dX6_take_8 ?_
  refine lv_sipush (v := 800) hx hb dX6_take_11 (by decide) ?_
  refine lv_icmp_ge (tgt := 46) hx hb dX6_take_14 (by decide) (fun c9 => absurd c9 (by decide)) (fun _ => ?_)
  refine lv_aload_n hx hb dX6_take_17 rfl (lv_at hl 1 rfl) ?_
  refine va_get (D := D) (ci := 6) (v := .ref a1) (C := RX6) (T := TX6) (N := 8) hx hb hts (fun w h => uc_in w (inX6 w h)) hown hK hP 0 rfl rfl 0 (by decide) (hts _ (uc_in _ q_f33)) (fun _ h9 => h9) rfl dX6_take_18 ?_
  refine lv_aload_n hx hb dX6_take_21 rfl (lv_at hl 1 rfl) ?_
  refine va_get (D := D) (ci := 6) (v := .int 13) (C := RX6) (T := TX6) (N := 8) hx hb hts (fun w h => uc_in w (inX6 w h)) hown hK hP 0 rfl rfl 1 (by decide) (hts _ (uc_in _ q_f35)) (fun _ h9 => h9) rfl dX6_take_22 ?_
  refine lv_iload_n hx hb dX6_take_25 rfl (lv_at hl 2 rfl) ?_
  refine lv_iload_n hx hb dX6_take_26 rfl (lv_at hl 0 rfl) ?_
  refine lv_ishr hx hb dX6_take_27 ?_
  refine lv_topi (fun z4 ez4 => ?_)
  refine lv_i2b hx hb dX6_take_28 rfl ?_
  refine lv_topi (fun z5 ez5 => ?_)
  refine va_bast hx hb hK hP hD hS 1 0 rfl rfl (vp_in_iff.mpr ⟨by decide, by decide⟩) dX6_take_29 (fun H locs hP hD hS => ?_)
  obtain ⟨f6, ef6⟩ : ∃ f9, f9 = upd f3 13.toNatClampNeg (vp_nar .byte z5) := ⟨_, rfl⟩
  rw [← ef6] at hP hD
  have hP : va_P D vwCl [(a0, .inr (6, [.ref a1, .int 13, .int 0, .int (-1), .int 0, .int 0, .int 0, .int 0])), (a1, .inl (cB, 800, .inl f6))] H := hP
  have hD : va_D AA [(a0, .inr (6, [.ref a1, .int 13, .int 0, .int (-1), .int 0, .int 0, .int 0, .int 0])), (a1, .inl (cB, 800, .inl f6))] := hD
  refine lv_aload_n hx hb dX6_take_30 rfl (lv_at hl 1 rfl) ?_
  refine lv_dup hx hb dX6_take_31 rfl ?_
  refine va_get (D := D) (ci := 6) (v := .int 13) (C := RX6) (T := TX6) (N := 8) hx hb hts (fun w h => uc_in w (inX6 w h)) hown hK hP 0 rfl rfl 1 (by decide) (hts _ (uc_in _ q_f35)) (fun _ h9 => h9) rfl dX6_take_32 ?_
  refine lv_iconst (v := 1) hx hb dX6_take_35 (by decide) ?_
  refine lv_iadd hx hb dX6_take_36 ?_
  refine pv_i (v := 14) (by decide) ?_
  refine va_put (D := D) (ci := 6) (v := .int 14) (ty := .int) (C := RX6) (T := TX6) (N := 8) hx hb hts (fun w h => uc_in w (inX6 w h)) tyX6 tyX6_ok nmX6 hown hK hP hD hS 0 rfl rfl 1 (by decide) (hts _ (uc_in _ q_f35)) (fun _ h9 => h9) rfl (by decide +kernel) rfl rfl (Nat.le_of_ble_eq_true rfl) dX6_take_37 (fun H locs hP hD hS => ?_)
  have hP : va_P D vwCl [(a0, .inr (6, [.ref a1, .int 14, .int 0, .int (-1), .int 0, .int 0, .int 0, .int 0])), (a1, .inl (cB, 800, .inl f6))] H := hP
  have hD : va_D AA [(a0, .inr (6, [.ref a1, .int 14, .int 0, .int (-1), .int 0, .int 0, .int 0, .int 0])), (a1, .inl (cB, 800, .inl f6))] := hD
  refine lv_iinc (v := 8) (lv' := [(2, .int 8), (0, .ref a0), (1, .int x0)]) hx hb dX6_take_40 hl (k := 0) rfl (by decide) (by decide) rfl (fun ls hl => ?_)
  refine lv_goto (tgt := 3) hx hb dX6_take_43 (by decide) ?_
  refine lv_iload_n hx hb dX6_take_3 rfl (lv_at hl 0 rfl) ?_
  refine lv_if_lt (tgt := 46) hx hb dX6_take_4 (by decide) (fun c9 => absurd c9 (by decide)) (fun _ => ?_)
  refine lv_aload_n hx hb dX6_take_7 rfl (lv_at hl 1 rfl) ?_
  refine va_get (D := D) (ci := 6) (v := .int 14) (C := RX6) (T := TX6) (N := 8) hx hb hts (fun w h => uc_in w (inX6 w h)) hown hK hP 0 rfl rfl 1 (by decide) (hts _ (uc_in _ q_f35)) (fun _ h9 => h9) rfl dX6_take_8 ?_
  refine lv_sipush (v := 800) hx hb dX6_take_11 (by decide) ?_
  refine lv_icmp_ge (tgt := 46) hx hb dX6_take_14 (by decide) (fun c9 => absurd c9 (by decide)) (fun _ => ?_)
  refine lv_aload_n hx hb dX6_take_17 rfl (lv_at hl 1 rfl) ?_
  refine va_get (D := D) (ci := 6) (v := .ref a1) (C := RX6) (T := TX6) (N := 8) hx hb hts (fun w h => uc_in w (inX6 w h)) hown hK hP 0 rfl rfl 0 (by decide) (hts _ (uc_in _ q_f33)) (fun _ h9 => h9) rfl dX6_take_18 ?_
  refine lv_aload_n hx hb dX6_take_21 rfl (lv_at hl 1 rfl) ?_
  refine va_get (D := D) (ci := 6) (v := .int 14) (C := RX6) (T := TX6) (N := 8) hx hb hts (fun w h => uc_in w (inX6 w h)) hown hK hP 0 rfl rfl 1 (by decide) (hts _ (uc_in _ q_f35)) (fun _ h9 => h9) rfl dX6_take_22 ?_
  refine lv_iload_n hx hb dX6_take_25 rfl (lv_at hl 2 rfl) ?_
  refine lv_iload_n hx hb dX6_take_26 rfl (lv_at hl 0 rfl) ?_
  refine lv_ishr hx hb dX6_take_27 ?_
  refine lv_topi (fun z7 ez7 => ?_)
  refine lv_i2b hx hb dX6_take_28 rfl ?_
  refine lv_topi (fun z8 ez8 => ?_)
  refine va_bast hx hb hK hP hD hS 1 0 rfl rfl (vp_in_iff.mpr ⟨by decide, by decide⟩) dX6_take_29 (fun H locs hP hD hS => ?_)
  obtain ⟨f9, ef9⟩ : ∃ f9, f9 = upd f6 14.toNatClampNeg (vp_nar .byte z8) := ⟨_, rfl⟩
  rw [← ef9] at hP hD
  have hP : va_P D vwCl [(a0, .inr (6, [.ref a1, .int 14, .int 0, .int (-1), .int 0, .int 0, .int 0, .int 0])), (a1, .inl (cB, 800, .inl f9))] H := hP
  have hD : va_D AA [(a0, .inr (6, [.ref a1, .int 14, .int 0, .int (-1), .int 0, .int 0, .int 0, .int 0])), (a1, .inl (cB, 800, .inl f9))] := hD
  refine lv_aload_n hx hb dX6_take_30 rfl (lv_at hl 1 rfl) ?_
  refine lv_dup hx hb dX6_take_31 rfl ?_
  refine va_get (D := D) (ci := 6) (v := .int 14) (C := RX6) (T := TX6) (N := 8) hx hb hts (fun w h => uc_in w (inX6 w h)) hown hK hP 0 rfl rfl 1 (by decide) (hts _ (uc_in _ q_f35)) (fun _ h9 => h9) rfl dX6_take_32 ?_
  refine lv_iconst (v := 1) hx hb dX6_take_35 (by decide) ?_
  refine lv_iadd hx hb dX6_take_36 ?_
  refine pv_i (v := 15) (by decide) ?_
  refine va_put (D := D) (ci := 6) (v := .int 15) (ty := .int) (C := RX6) (T := TX6) (N := 8) hx hb hts (fun w h => uc_in w (inX6 w h)) tyX6 tyX6_ok nmX6 hown hK hP hD hS 0 rfl rfl 1 (by decide) (hts _ (uc_in _ q_f35)) (fun _ h9 => h9) rfl (by decide +kernel) rfl rfl (Nat.le_of_ble_eq_true rfl) dX6_take_37 (fun H locs hP hD hS => ?_)
  have hP : va_P D vwCl [(a0, .inr (6, [.ref a1, .int 15, .int 0, .int (-1), .int 0, .int 0, .int 0, .int 0])), (a1, .inl (cB, 800, .inl f9))] H := hP
  have hD : va_D AA [(a0, .inr (6, [.ref a1, .int 15, .int 0, .int (-1), .int 0, .int 0, .int 0, .int 0])), (a1, .inl (cB, 800, .inl f9))] := hD
  refine lv_iinc (v := 0) (lv' := [(2, .int 0), (0, .ref a0), (1, .int x0)]) hx hb dX6_take_40 hl (k := 0) rfl (by decide) (by decide) rfl (fun ls hl => ?_)
  refine lv_goto (tgt := 3) hx hb dX6_take_43 (by decide) ?_
  refine lv_iload_n hx hb dX6_take_3 rfl (lv_at hl 0 rfl) ?_
  refine lv_if_lt (tgt := 46) hx hb dX6_take_4 (by decide) (fun c9 => absurd c9 (by decide)) (fun _ => ?_)
  refine lv_aload_n hx hb dX6_take_7 rfl (lv_at hl 1 rfl) ?_
  refine va_get (D := D) (ci := 6) (v := .int 15) (C := RX6) (T := TX6) (N := 8) hx hb hts (fun w h => uc_in w (inX6 w h)) hown hK hP 0 rfl rfl 1 (by decide) (hts _ (uc_in _ q_f35)) (fun _ h9 => h9) rfl dX6_take_8 ?_
  refine lv_sipush (v := 800) hx hb dX6_take_11 (by decide) ?_
  refine lv_icmp_ge (tgt := 46) hx hb dX6_take_14 (by decide) (fun c9 => absurd c9 (by decide)) (fun _ => ?_)
  refine lv_aload_n hx hb dX6_take_17 rfl (lv_at hl 1 rfl) ?_
  refine va_get (D := D) (ci := 6) (v := .ref a1) (C := RX6) (T := TX6) (N := 8) hx hb hts (fun w h => uc_in w (inX6 w h)) hown hK hP 0 rfl rfl 0 (by decide) (hts _ (uc_in _ q_f33)) (fun _ h9 => h9) rfl dX6_take_18 ?_
  refine lv_aload_n hx hb dX6_take_21 rfl (lv_at hl 1 rfl) ?_
  refine va_get (D := D) (ci := 6) (v := .int 15) (C := RX6) (T := TX6) (N := 8) hx hb hts (fun w h => uc_in w (inX6 w h)) hown hK hP 0 rfl rfl 1 (by decide) (hts _ (uc_in _ q_f35)) (fun _ h9 => h9) rfl dX6_take_22 ?_
  refine lv_iload_n hx hb dX6_take_25 rfl (lv_at hl 2 rfl) ?_
  refine lv_iload_n hx hb dX6_take_26 rfl (lv_at hl 0 rfl) ?_
  refine lv_ishr hx hb dX6_take_27 ?_
  refine lv_topi (fun z10 ez10 => ?_)
  refine lv_i2b hx hb dX6_take_28 rfl ?_
  refine lv_topi (fun z11 ez11 => ?_)
  refine va_bast hx hb hK hP hD hS 1 0 rfl rfl (vp_in_iff.mpr ⟨by decide, by decide⟩) dX6_take_29 (fun H locs hP hD hS => ?_)
  obtain ⟨f12, ef12⟩ : ∃ f9, f9 = upd f9 15.toNatClampNeg (vp_nar .byte z11) := ⟨_, rfl⟩
  rw [← ef12] at hP hD
  have hP : va_P D vwCl [(a0, .inr (6, [.ref a1, .int 15, .int 0, .int (-1), .int 0, .int 0, .int 0, .int 0])), (a1, .inl (cB, 800, .inl f12))] H := hP
  have hD : va_D AA [(a0, .inr (6, [.ref a1, .int 15, .int 0, .int (-1), .int 0, .int 0, .int 0, .int 0])), (a1, .inl (cB, 800, .inl f12))] := hD
  refine lv_aload_n hx hb dX6_take_30 rfl (lv_at hl 1 rfl) ?_
  refine lv_dup hx hb dX6_take_31 rfl ?_
  refine va_get (D := D) (ci := 6) (v := .int 15) (C := RX6) (T := TX6) (N := 8) hx hb hts (fun w h => uc_in w (inX6 w h)) hown hK hP 0 rfl rfl 1 (by decide) (hts _ (uc_in _ q_f35)) (fun _ h9 => h9) rfl dX6_take_32 ?_
  refine lv_iconst (v := 1) hx hb dX6_take_35 (by decide) ?_
  refine lv_iadd hx hb dX6_take_36 ?_
  refine pv_i (v := 16) (by decide) ?_
  refine va_put (D := D) (ci := 6) (v := .int 16) (ty := .int) (C := RX6) (T := TX6) (N := 8) hx hb hts (fun w h => uc_in w (inX6 w h)) tyX6 tyX6_ok nmX6 hown hK hP hD hS 0 rfl rfl 1 (by decide) (hts _ (uc_in _ q_f35)) (fun _ h9 => h9) rfl (by decide +kernel) rfl rfl (Nat.le_of_ble_eq_true rfl) dX6_take_37 (fun H locs hP hD hS => ?_)
  have hP : va_P D vwCl [(a0, .inr (6, [.ref a1, .int 16, .int 0, .int (-1), .int 0, .int 0, .int 0, .int 0])), (a1, .inl (cB, 800, .inl f12))] H := hP
  have hD : va_D AA [(a0, .inr (6, [.ref a1, .int 16, .int 0, .int (-1), .int 0, .int 0, .int 0, .int 0])), (a1, .inl (cB, 800, .inl f12))] := hD
  refine lv_iinc (v := (-8)) (lv' := [(2, .int (-8)), (0, .ref a0), (1, .int x0)]) hx hb dX6_take_40 hl (k := 0) rfl (by decide) (by decide) rfl (fun ls hl => ?_)
  refine lv_goto (tgt := 3) hx hb dX6_take_43 (by decide) ?_
  refine lv_iload_n hx hb dX6_take_3 rfl (lv_at hl 0 rfl) ?_
  refine lv_if_lt (tgt := 46) hx hb dX6_take_4 (by decide) (fun _ => ?_) (fun c9 => absurd (by decide) c9)
  subst hAe
  have hP9 := hP.sub (ws' := [(a0, .inr (6, [.ref a1, .int 16, .int 0, .int (-1), .int 0, .int 0, .int 0, .int 0])), (a1, .inl (cB, 800, .inl f12))]) [0, 1] rfl
  have hD9 := hD.sub (ws' := [(a0, .inr (6, [.ref a1, .int 16, .int 0, .int (-1), .int 0, .int 0, .int 0, .int 0])), (a1, .inl (cB, 800, .inl f12))]) [0, 1] rfl rfl
  exact W.vret hx hb hr (fun t ht hW => ⟨⟨f12, rfl, trivial, by rw [ht]; exact hP9, va_K.moved hW.alike hK, hD9⟩, hS.F ht⟩) hS.2.2 dX6_take_46
set_option maxHeartbeats 4000000 in
set_option maxRecDepth 100000 in
theorem kX6_take_4 (l : Launch) (D : va_G) (cB cI cJ cZ cT cR : ClassId) (a0 a1 : Nat) (x0 : Int32) (f90 : Nat → Int32) (sz : Nat) : Met l yX6_take (uc yX6_take cX6_take 3 none) (rmL 1 0 0) (va_Pc [.ref a0, .int x0] (MPre D [(cB, .byte), (cI, .int), (cJ, .long), (cZ, .boolean), (cT, .object RX7), (cR, .object RX3)] [(a0, .inr (6, [.ref a1, .int 16, .int 0, .int (-1), .int 0, .int 0, .int 0, .int 0])), (a1, .inl (cB, 800, .inl f90))] sz)) (va_Qv (fun (_ : (Nat → Int32)) => True) (MB D [(cB, .byte), (cI, .int), (cJ, .long), (cZ, .boolean), (cT, .object RX7), (cR, .object RX3)] [(a0, .inr (6, [.ref a1, .int 16, .int 0, .int (-1), .int 0, .int 0, .int 0, .int 0])), (a1, .inl (cB, 800, .inl f90))] sz (fun (u : (Nat → Int32)) => [(a0, .inr (6, [.ref a1, .int 20, .int 0, .int (-1), .int 0, .int 0, .int 0, .int 0])), (a1, .inl (cB, 800, .inl u))])) (va_A [(a0, .inr (6, [.ref a1, .int 16, .int 0, .int (-1), .int 0, .int 0, .int 0, .int 0])), (a1, .inl (cB, 800, .inl f90))] sz)) 0 0 (va_A [(a0, .inr (6, [.ref a1, .int 16, .int 0, .int (-1), .int 0, .int 0, .int 0, .int 0])), (a1, .inl (cB, 800, .inl f90))] sz) := by
  refine pm (by decide) (Nat.le_of_ble_eq_true rfl) ?_
  intro p e s m below meth c ls hx hb hr hml hown hlk hnm hts hv hl
  have hown : s.vm.findClass RX6 = some m.cls := hown
  have hl : lv_has ls 3 [(0, .ref a0), (1, .int x0)] := hl
  obtain ⟨hsz, hP, hK, hD0, hE⟩ := hv
  subst hsz
  have hD := hD0.self (sz := s.heap.size)
  obtain ⟨AA, hAe⟩ : ∃ AA, AA = va_A [(a0, .inr (6, [.ref a1, .int 16, .int 0, .int (-1), .int 0, .int 0, .int 0, .int 0])), (a1, .inl (cB, 800, .inl f90))] s.heap.size := ⟨_, rfl⟩
  rw [← hAe] at hD
  have hA : ∀ q : Nat, s.heap.size ≤ q → AA q := fun q h => by rw [hAe]; exact Or.inr h
  have hS : va_S AA s.heap s.heap [] := va_S.rf
  obtain ⟨-, hAOT, hAOR, hAOI⟩ := id hE
  refine lv_bipush (v := 24) hx hb dX6_take_0 (by decide) ?_
  refine lv_istore_n (lv' := [(2, .int 24), (0, .ref a0), (1, .int x0)]) hx hb dX6_take_2 rfl hl (by decide) rfl (fun ls hl => ?_)
  refine lv_iload_n hx hb dX6_take_3 rfl (lv_at hl 0 rfl) ?_
  refine lv_if_lt (tgt := 46) hx hb dX6_take_4 (by decide) (fun c9 => absurd c9 (by decide)) (fun _ => ?_)
  refine lv_aload_n hx hb dX6_take_7 rfl (lv_at hl 1 rfl) ?_
  refine va_get (D := D) (ci := 6) (v := .int 16) (C := RX6) (T := TX6) (N := 8) hx hb hts (fun w h => uc_in w (inX6 w h)) hown hK hP 0 rfl rfl 1 (by decide) (hts _ (uc_in _ q_f35)) (fun _ h9 => h9) rfl dX6_take_8 ?_
  refine lv_sipush (v := 800) hx hb dX6_take_11 (by decide) ?_
  refine lv_icmp_ge (tgt := 46) hx hb dX6_take_14 (by decide) (fun c9 => absurd c9 (by decide)) (fun _ => ?_)
  refine lv_aload_n hx hb dX6_take_17 rfl (lv_at hl 1 rfl) ?_
  refine va_get (D := D) (ci := 6) (v := .ref a1) (C := RX6) (T := TX6) (N := 8) hx hb hts (fun w h => uc_in w (inX6 w h)) hown hK hP 0 rfl rfl 0 (by decide) (hts _ (uc_in _ q_f33)) (fun _ h9 => h9) rfl dX6_take_18 ?_
  refine lv_aload_n hx hb dX6_take_21 rfl (lv_at hl 1 rfl) ?_
  refine va_get (D := D) (ci := 6) (v := .int 16) (C := RX6) (T := TX6) (N := 8) hx hb hts (fun w h => uc_in w (inX6 w h)) hown hK hP 0 rfl rfl 1 (by decide) (hts _ (uc_in _ q_f35)) (fun _ h9 => h9) rfl dX6_take_22 ?_
  refine lv_iload_n hx hb dX6_take_25 rfl (lv_at hl 2 rfl) ?_
  refine lv_iload_n hx hb dX6_take_26 rfl (lv_at hl 0 rfl) ?_
  refine lv_ishr hx hb dX6_take_27 ?_
  refine lv_topi (fun z1 ez1 => ?_)
  refine lv_i2b hx hb dX6_take_28 rfl ?_
  refine lv_topi (fun z2 ez2 => ?_)
  refine va_bast hx hb hK hP hD hS 1 0 rfl rfl (vp_in_iff.mpr ⟨by decide, by decide⟩) dX6_take_29 (fun H locs hP hD hS => ?_)
  obtain ⟨f3, ef3⟩ : ∃ f9, f9 = upd f90 16.toNatClampNeg (vp_nar .byte z2) := ⟨_, rfl⟩
  rw [← ef3] at hP hD
  have hP : va_P D vwCl [(a0, .inr (6, [.ref a1, .int 16, .int 0, .int (-1), .int 0, .int 0, .int 0, .int 0])), (a1, .inl (cB, 800, .inl f3))] H := hP
  have hD : va_D AA [(a0, .inr (6, [.ref a1, .int 16, .int 0, .int (-1), .int 0, .int 0, .int 0, .int 0])), (a1, .inl (cB, 800, .inl f3))] := hD
  refine lv_aload_n hx hb dX6_take_30 rfl (lv_at hl 1 rfl) ?_
  refine lv_dup hx hb dX6_take_31 rfl ?_
  refine va_get (D := D) (ci := 6) (v := .int 16) (C := RX6) (T := TX6) (N := 8) hx hb hts (fun w h => uc_in w (inX6 w h)) hown hK hP 0 rfl rfl 1 (by decide) (hts _ (uc_in _ q_f35)) (fun _ h9 => h9) rfl dX6_take_32 ?_
  refine lv_iconst (v := 1) hx hb dX6_take_35 (by decide) ?_
  refine lv_iadd hx hb dX6_take_36 ?_
  refine pv_i (v := 17) (by decide) ?_
  refine va_put (D := D) (ci := 6) (v := .int 17) (ty := .int) (C := RX6) (T := TX6) (N := 8) hx hb hts (fun w h => uc_in w (inX6 w h)) tyX6 tyX6_ok nmX6 hown hK hP hD hS 0 rfl rfl 1 (by decide) (hts _ (uc_in _ q_f35)) (fun _ h9 => h9) rfl (by decide +kernel) rfl rfl (Nat.le_of_ble_eq_true rfl) dX6_take_37 (fun H locs hP hD hS => ?_)
  have hP : va_P D vwCl [(a0, .inr (6, [.ref a1, .int 17, .int 0, .int (-1), .int 0, .int 0, .int 0, .int 0])), (a1, .inl (cB, 800, .inl f3))] H := hP
  have hD : va_D AA [(a0, .inr (6, [.ref a1, .int 17, .int 0, .int (-1), .int 0, .int 0, .int 0, .int 0])), (a1, .inl (cB, 800, .inl f3))] := hD
  refine lv_iinc (v := 16) (lv' := [(2, .int 16), (0, .ref a0), (1, .int x0)]) hx hb dX6_take_40 hl (k := 0) rfl (by decide) (by decide) rfl (fun ls hl => ?_)
  refine lv_goto (tgt := 3) hx hb dX6_take_43 (by decide) ?_
  refine lv_iload_n hx hb dX6_take_3 rfl (lv_at hl 0 rfl) ?_
  refine lv_if_lt (tgt := 46) hx hb dX6_take_4 (by decide) (fun c9 => absurd c9 (by decide)) (fun _ => ?_)
  refine lv_aload_n hx hb dX6_take_7 rfl (lv_at hl 1 rfl) ?_
  refine va_get (D := D) (ci := 6) (v := .int 17) (C := RX6) (T := TX6) (N := 8) hx hb hts (fun w h => uc_in w (inX6 w h)) hown hK hP 0 rfl rfl 1 (by decide) (hts _ (uc_in _ q_f35)) (fun _ h9 => h9) rfl dX6_take_8 ?_
  refine lv_sipush (v := 800) hx hb dX6_take_11 (by decide) ?_
  refine lv_icmp_ge (tgt := 46) hx hb dX6_take_14 (by decide) (fun c9 => absurd c9 (by decide)) (fun _ => ?_)
  refine lv_aload_n hx hb dX6_take_17 rfl (lv_at hl 1 rfl) ?_
  refine va_get (D := D) (ci := 6) (v := .ref a1) (C := RX6) (T := TX6) (N := 8) hx hb hts (fun w h => uc_in w (inX6 w h)) hown hK hP 0 rfl rfl 0 (by decide) (hts _ (uc_in _ q_f33)) (fun _ h9 => h9) rfl dX6_take_18 ?_
  refine lv_aload_n hx hb dX6_take_21 rfl (lv_at hl 1 rfl) ?_
  refine va_get (D := D) (ci := 6) (v := .int 17) (C := RX6) (T := TX6) (N := 8) hx hb hts (fun w h => uc_in w (inX6 w h)) hown hK hP 0 rfl rfl 1 (by decide) (hts _ (uc_in _ q_f35)) (fun _ h9 => h9) rfl dX6_take_22 ?_
  refine lv_iload_n hx hb dX6_take_25 rfl (lv_at hl 2 rfl) ?_
  refine lv_iload_n hx hb dX6_take_26 rfl (lv_at hl 0 rfl) ?_
  refine lv_ishr hx hb dX6_take_27 ?_
  refine lv_topi (fun z4 ez4 => ?_)
  refine lv_i2b hx hb dX6_take_28 rfl ?_
  refine lv_topi (fun z5 ez5 => ?_)
  refine va_bast hx hb hK hP hD hS 1 0 rfl rfl (vp_in_iff.mpr ⟨by decide, by decide⟩) dX6_take_29 (fun H locs hP hD hS => ?_)
  obtain ⟨f6, ef6⟩ : ∃ f9, f9 = upd f3 17.toNatClampNeg (vp_nar .byte z5) := ⟨_, rfl⟩
  rw [← ef6] at hP hD
  have hP : va_P D vwCl [(a0, .inr (6, [.ref a1, .int 17, .int 0, .int (-1), .int 0, .int 0, .int 0, .int 0])), (a1, .inl (cB, 800, .inl f6))] H := hP
  have hD : va_D AA [(a0, .inr (6, [.ref a1, .int 17, .int 0, .int (-1), .int 0, .int 0, .int 0, .int 0])), (a1, .inl (cB, 800, .inl f6))] := hD
  refine lv_aload_n hx hb dX6_take_30 rfl (lv_at hl 1 rfl) ?_
  refine lv_dup hx hb dX6_take_31 rfl ?_
  refine va_get (D := D) (ci := 6) (v := .int 17) (C := RX6) (T := TX6) (N := 8) hx hb hts (fun w h => uc_in w (inX6 w h)) hown hK hP 0 rfl rfl 1 (by decide) (hts _ (uc_in _ q_f35)) (fun _ h9 => h9) rfl dX6_take_32 ?_
  refine lv_iconst (v := 1) hx hb dX6_take_35 (by decide) ?_
  refine lv_iadd hx hb dX6_take_36 ?_
  refine pv_i (v := 18) (by decide) ?_
  refine va_put (D := D) (ci := 6) (v := .int 18) (ty := .int) (C := RX6) (T := TX6) (N := 8) hx hb hts (fun w h => uc_in w (inX6 w h)) tyX6 tyX6_ok nmX6 hown hK hP hD hS 0 rfl rfl 1 (by decide) (hts _ (uc_in _ q_f35)) (fun _ h9 => h9) rfl (by decide +kernel) rfl rfl (Nat.le_of_ble_eq_true rfl) dX6_take_37 (fun H locs hP hD hS => ?_)
  have hP : va_P D vwCl [(a0, .inr (6, [.ref a1, .int 18, .int 0, .int (-1), .int 0, .int 0, .int 0, .int 0])), (a1, .inl (cB, 800, .inl f6))] H := hP
  have hD : va_D AA [(a0, .inr (6, [.ref a1, .int 18, .int 0, .int (-1), .int 0, .int 0, .int 0, .int 0])), (a1, .inl (cB, 800, .inl f6))] := hD
  refine lv_iinc (v := 8) (lv' := [(2, .int 8), (0, .ref a0), (1, .int x0)]) hx hb dX6_take_40 hl (k := 0) rfl (by decide) (by decide) rfl (fun ls hl => ?_)
  refine lv_goto (tgt := 3) hx hb dX6_take_43 (by decide) ?_
  refine lv_iload_n hx hb dX6_take_3 rfl (lv_at hl 0 rfl) ?_
  refine lv_if_lt (tgt := 46) hx hb dX6_take_4 (by decide) (fun c9 => absurd c9 (by decide)) (fun _ => ?_)
  refine lv_aload_n hx hb dX6_take_7 rfl (lv_at hl 1 rfl) ?_
  refine va_get (D := D) (ci := 6) (v := .int 18) (C := RX6) (T := TX6) (N := 8) hx hb hts (fun w h => uc_in w (inX6 w h)) hown hK hP 0 rfl rfl 1 (by decide) (hts _ (uc_in _ q_f35)) (fun _ h9 => h9) rfl dX6_take_8 ?_
  refine lv_sipush (v := 800) hx hb dX6_take_11 (by decide) ?_
  refine lv_icmp_ge (tgt := 46) hx hb dX6_take_14 (by decide) (fun c9 => absurd c9 (by decide)) (fun _ => ?_)
  refine lv_aload_n hx hb dX6_take_17 rfl (lv_at hl 1 rfl) ?_
  refine va_get (D := D) (ci := 6) (v := .ref a1) (C := RX6) (T := TX6) (N := 8) hx hb hts (fun w h => uc_in w (inX6 w h)) hown hK hP 0 rfl rfl 0 (by decide) (hts _ (uc_in _ q_f33)) (fun _ h9 => h9) rfl dX6_take_18 ?_
  refine lv_aload_n hx hb dX6_take_21 rfl (lv_at hl 1 rfl) ?_
  refine va_get (D := D) (ci := 6) (v := .int 18) (C := RX6) (T := TX6) (N := 8) hx hb hts (fun w h => uc_in w (inX6 w h)) hown hK hP 0 rfl rfl 1 (by decide) (hts _ (uc_in _ q_f35)) (fun _ h9 => h9) rfl dX6_take_22 ?_
  refine lv_iload_n hx hb dX6_take_25 rfl (lv_at hl 2 rfl) ?_
  refine lv_iload_n hx hb dX6_take_26 rfl (lv_at hl 0 rfl) ?_
  refine lv_ishr hx hb dX6_take_27 ?_
  refine lv_topi (fun z7 ez7 => ?_)
  refine lv_i2b hx hb dX6_take_28 rfl ?_
  refine lv_topi (fun z8 ez8 => ?_)
  refine va_bast hx hb hK hP hD hS 1 0 rfl rfl (vp_in_iff.mpr ⟨by decide, by decide⟩) dX6_take_29 (fun H locs hP hD hS => ?_)
  obtain ⟨f9, ef9⟩ : ∃ f9, f9 = upd f6 18.toNatClampNeg (vp_nar .byte z8) := ⟨_, rfl⟩
  rw [← ef9] at hP hD
  have hP : va_P D vwCl [(a0, .inr (6, [.ref a1, .int 18, .int 0, .int (-1), .int 0, .int 0, .int 0, .int 0])), (a1, .inl (cB, 800, .inl f9))] H := hP
  have hD : va_D AA [(a0, .inr (6, [.ref a1, .int 18, .int 0, .int (-1), .int 0, .int 0, .int 0, .int 0])), (a1, .inl (cB, 800, .inl f9))] := hD
  refine lv_aload_n hx hb dX6_take_30 rfl (lv_at hl 1 rfl) ?_
  refine lv_dup hx hb dX6_take_31 rfl ?_
  refine va_get (D := D) (ci := 6) (v := .int 18) (C := RX6) (T := TX6) (N := 8) hx hb hts (fun w h => uc_in w (inX6 w h)) hown hK hP 0 rfl rfl 1 (by decide) (hts _ (uc_in _ q_f35)) (fun _ h9 => h9) rfl dX6_take_32 ?_
  refine lv_iconst (v := 1) hx hb dX6_take_35 (by decide) ?_
  refine lv_iadd hx hb dX6_take_36 ?_
  refine pv_i (v := 19) (by decide) ?_
  refine va_put (D := D) (ci := 6) (v := .int 19) (ty := .int) (C := RX6) (T := TX6) (N := 8) hx hb hts (fun w h => uc_in w (inX6 w h)) tyX6 tyX6_ok nmX6 hown hK hP hD hS 0 rfl rfl 1 (by decide) (hts _ (uc_in _ q_f35)) (fun _ h9 => h9) rfl (by decide +kernel) rfl rfl (Nat.le_of_ble_eq_true rfl) dX6_take_37 (fun H locs hP hD hS => ?_)
  have hP : va_P D vwCl [(a0, .inr (6, [.ref a1, .int 19, .int 0, .int (-1), .int 0, .int 0, .int 0, .int 0])), (a1, .inl (cB, 800, .inl f9))] H := hP
  have hD : va_D AA [(a0, .inr (6, [.ref a1, .int 19, .int 0, .int (-1), .int 0, .int 0, .int 0, .int 0])), (a1, .inl (cB, 800, .inl f9))] := hD
  refine lv_iinc (v := 0) (lv' := [(2, .int 0), (0, .ref a0), (1, .int x0)]) hx hb dX6_take_40 hl (k := 0) rfl (by decide) (by decide) rfl (fun ls hl => ?_)
  refine lv_goto (tgt := 3) hx hb dX6_take_43 (by decide) ?_
  refine lv_iload_n hx hb dX6_take_3 rfl (lv_at hl 0 rfl) ?_
  refine lv_if_lt (tgt := 46) hx hb dX6_take_4 (by decide) (fun c9 => absurd c9 (by decide)) (fun _ => ?_)
  refine lv_aload_n hx hb dX6_take_7 rfl (lv_at hl 1 rfl) ?_
  refine va_get (D := D) (ci := 6) (v := .int 19) (C := RX6) (T := TX6) (N := 8) hx hb hts (fun w h => uc_in w (inX6 w h)) hown hK hP 0 rfl rfl 1 (by decide) (hts _ (uc_in _ q_f35)) (fun _ h9 => h9) rfl dX6_take_8 ?_
  refine lv_sipush (v := 800) hx hb dX6_take_11 (by decide) ?_
  refine lv_icmp_ge (tgt := 46) hx hb dX6_take_14 (by decide) (fun c9 => absurd c9 (by decide)) (fun _ => ?_)
  refine lv_aload_n hx hb dX6_take_17 rfl (lv_at hl 1 rfl) ?_
  refine va_get (D := D) (ci := 6) (v := .ref a1) (C := RX6) (T := TX6) (N := 8) hx hb hts (fun w h => uc_in w (inX6 w h)) hown hK hP 0 rfl rfl 0 (by decide) (hts _ (uc_in _ q_f33)) (fun _ h9 => h9) rfl dX6_take_18 ?_
  refine lv_aload_n hx hb dX6_take_21 rfl (lv_at hl 1 rfl) ?_
  refine va_get (D := D) (ci := 6) (v := .int 19) (C := RX6) (T := TX6) (N := 8) hx hb hts (fun w h => uc_in w (inX6 w h)) hown hK hP 0 rfl rfl 1 (by decide) (hts _ (uc_in _ q_f35)) (fun _ h9 => h9) rfl dX6_take_22 ?_
  refine lv_iload_n hx hb dX6_take_25 rfl (lv_at hl 2 rfl) ?_
  refine lv_iload_n hx hb dX6_take_26 rfl (lv_at hl 0 rfl) ?_
  refine lv_ishr hx hb dX6_take_27 ?_
  refine lv_topi (fun z10 ez10 => ?_)
  refine lv_i2b hx hb dX6_take_28 rfl ?_
  refine lv_topi (fun z11 ez11 => ?_)
  refine va_bast hx hb hK hP hD hS 1 0 rfl rfl (vp_in_iff.mpr ⟨by decide, by decide⟩) dX6_take_29 (fun H locs hP hD hS => ?_)
  obtain ⟨f12, ef12⟩ : ∃ f9, f9 = upd f9 19.toNatClampNeg (vp_nar .byte z11) := ⟨_, rfl⟩
  rw [← ef12] at hP hD
  have hP : va_P D vwCl [(a0, .inr (6, [.ref a1, .int 19, .int 0, .int (-1), .int 0, .int 0, .int 0, .int 0])), (a1, .inl (cB, 800, .inl f12))] H := hP
  have hD : va_D AA [(a0, .inr (6, [.ref a1, .int 19, .int 0, .int (-1), .int 0, .int 0, .int 0, .int 0])), (a1, .inl (cB, 800, .inl f12))] := hD
  refine lv_aload_n hx hb dX6_take_30 rfl (lv_at hl 1 rfl) ?_
  refine lv_dup hx hb dX6_take_31 rfl ?_
  refine va_get (D := D) (ci := 6) (v := .int 19) (C := RX6) (T := TX6) (N := 8) hx hb hts (fun w h => uc_in w (inX6 w h)) hown hK hP 0 rfl rfl 1 (by decide) (hts _ (uc_in _ q_f35)) (fun _ h9 => h9) rfl dX6_take_32 ?_
  refine lv_iconst (v := 1) hx hb dX6_take_35 (by decide) ?_
  refine lv_iadd hx hb dX6_take_36 ?_
  refine pv_i (v := 20) (by decide) ?_
  refine va_put (D := D) (ci := 6) (v := .int 20) (ty := .int) (C := RX6) (T := TX6) (N := 8) hx hb hts (fun w h => uc_in w (inX6 w h)) tyX6 tyX6_ok nmX6 hown hK hP hD hS 0 rfl rfl 1 (by decide) (hts _ (uc_in _ q_f35)) (fun _ h9 => h9) rfl (by decide +kernel) rfl rfl (Nat.le_of_ble_eq_true rfl) dX6_take_37 (fun H locs hP hD hS => ?_)
  have hP : va_P D vwCl [(a0, .inr (6, [.ref a1, .int 20, .int 0, .int (-1), .int 0, .int 0, .int 0, .int 0])), (a1, .inl (cB, 800, .inl f12))] H := hP
  have hD : va_D AA [(a0, .inr (6, [.ref a1, .int 20, .int 0, .int (-1), .int 0, .int 0, .int 0, .int 0])), (a1, .inl (cB, 800, .inl f12))] := hD
  refine lv_iinc (v := (-8)) (lv' := [(2, .int (-8)), (0, .ref a0), (1, .int x0)]) hx hb dX6_take_40 hl (k := 0) rfl (by decide) (by decide) rfl (fun ls hl => ?_)
  refine lv_goto (tgt := 3) hx hb dX6_take_43 (by decide) ?_
  refine lv_iload_n hx hb dX6_take_3 rfl (lv_at hl 0 rfl) ?_
  refine lv_if_lt (tgt := 46) hx hb dX6_take_4 (by decide) (fun _ => ?_) (fun c9 => absurd (by decide) c9)
  subst hAe
  have hP9 := hP.sub (ws' := [(a0, .inr (6, [.ref a1, .int 20, .int 0, .int (-1), .int 0, .int 0, .int 0, .int 0])), (a1, .inl (cB, 800, .inl f12))]) [0, 1] rfl
  have hD9 := hD.sub (ws' := [(a0, .inr (6, [.ref a1, .int 20, .int 0, .int (-1), .int 0, .int 0, .int 0, .int 0])), (a1, .inl (cB, 800, .inl f12))]) [0, 1] rfl rfl
  exact W.vret hx hb hr (fun t ht hW => ⟨⟨f12, rfl, trivial, by rw [ht]; exact hP9, va_K.moved hW.alike hK, hD9⟩, hS.F ht⟩) hS.2.2 dX6_take_46
set_option maxHeartbeats 4000000 in
set_option maxRecDepth 100000 in
theorem kX9_feed_0 (l : Launch) (D : va_G) (cB cI cJ cZ cT cR : ClassId) (a0 a1 a2 a3 a4 a5 a6 a7 a8 a9 a10 a11 a12 : Nat) (x0 : Int32) (x1 : Int32) (x2 : Int32) (x3 : Int32) (x4 : Int32) (sz : Nat) : Met l yX9_feed (uc yX9_feed cX9_feed 6 (some .int)) (rmL 2 0 0) (va_Pc [.ref a0, .int x0, .int x1, .int x2, .int x3, .int x4] (MPre D [(cB, .byte), (cI, .int), (cJ, .long), (cZ, .boolean), (cT, .object RX7), (cR, .object RX3)] [(a0, .inr (9, [.ref a1, .ref a3, .ref a4, .ref a5, .int 0, .ref a6, .ref a7, .ref a8, .ref a9, .ref a10, .ref a11, .ref a12])), (a1, .inr (6, [.ref a2, .int 0, .int 0, .int (-1), .int 0, .int 0, .int 0, .int 0])), (a2, .inl (cB, 800, .inl (fun _ => 0)))] sz)) (va_Qi (fun (r : Int32) (_ : (Nat → Int32)) => r = 20) (MB D [(cB, .byte), (cI, .int), (cJ, .long), (cZ, .boolean), (cT, .object RX7), (cR, .object RX3)] [(a0, .inr (9, [.ref a1, .ref a3, .ref a4, .ref a5, .int 0, .ref a6, .ref a7, .ref a8, .ref a9, .ref a10, .ref a11, .ref a12])), (a1, .inr (6, [.ref a2, .int 0, .int 0, .int (-1), .int 0, .int 0, .int 0, .int 0])), (a2, .inl (cB, 800, .inl (fun _ => 0)))] sz (fun (u : (Nat → Int32)) => [(a0, .inr (9, [.ref a1, .ref a3, .ref a4, .ref a5, .int 0, .ref a6, .ref a7, .ref a8, .ref a9, .ref a10, .ref a11, .ref a12])), (a1, .inr (6, [.ref a2, .int 20, .int 0, .int (-1), .int 0, .int 0, .int 0, .int 0])), (a2, .inl (cB, 800, .inl u))])) (va_A [(a0, .inr (9, [.ref a1, .ref a3, .ref a4, .ref a5, .int 0, .ref a6, .ref a7, .ref a8, .ref a9, .ref a10, .ref a11, .ref a12])), (a1, .inr (6, [.ref a2, .int 0, .int 0, .int (-1), .int 0, .int 0, .int 0, .int 0])), (a2, .inl (cB, 800, .inl (fun _ => 0)))] sz)) 0 0 (va_A [(a0, .inr (9, [.ref a1, .ref a3, .ref a4, .ref a5, .int 0, .ref a6, .ref a7, .ref a8, .ref a9, .ref a10, .ref a11, .ref a12])), (a1, .inr (6, [.ref a2, .int 0, .int 0, .int (-1), .int 0, .int 0, .int 0, .int 0])), (a2, .inl (cB, 800, .inl (fun _ => 0)))] sz) := by
  refine pm (by decide) (Nat.le_of_ble_eq_true rfl) ?_
  intro p e s m below meth c ls hx hb hr hml hown hlk hnm hts hv hl
  have hown : s.vm.findClass RX9 = some m.cls := hown
  have hl : lv_has ls 6 [(0, .ref a0), (1, .int x0), (2, .int x1), (3, .int x2), (4, .int x3), (5, .int x4)] := hl
  obtain ⟨hsz, hP, hK, hD0, hE⟩ := hv
  subst hsz
  have hD := hD0.self (sz := s.heap.size)
  obtain ⟨AA, hAe⟩ : ∃ AA, AA = va_A [(a0, .inr (9, [.ref a1, .ref a3, .ref a4, .ref a5, .int 0, .ref a6, .ref a7, .ref a8, .ref a9, .ref a10, .ref a11, .ref a12])), (a1, .inr (6, [.ref a2, .int 0, .int 0, .int (-1), .int 0, .int 0, .int 0, .int 0])), (a2, .inl (cB, 800, .inl (fun _ => 0)))] s.heap.size := ⟨_, rfl⟩
  rw [← hAe] at hD
  have hA : ∀ q : Nat, s.heap.size ≤ q → AA q := fun q h => by rw [hAe]; exact Or.inr h
  have hS : va_S AA s.heap s.heap [] := va_S.rf
  obtain ⟨-, hAOT, hAOR, hAOI⟩ := id hE
  refine lv_aload_n hx hb dX9_feed_0 rfl (lv_at hl 0 rfl) ?_
  refine va_get (D := D) (ci := 9) (v := .ref a1) (C := RX9) (T := TX9) (N := 12) hx hb hts (fun w h => uc_in w (inX9 w h)) hown hK hP 0 rfl rfl 0 (by decide) (hts _ (uc_in _ q_f383)) (fun _ h9 => h9) rfl dX9_feed_1 ?_
  refine va_get (D := D) (ci := 6) (v := .int 0) (C := RX6) (T := TX6) (N := 8) hx hb hts (fun w h => uc_in w (inX6 w h)) hown hK hP 1 rfl rfl 1 (by decide) (hts _ (uc_in _ q_f34)) (fun _ h9 => h9) rfl dX9_feed_4 ?_
  refine lv_bipush (v := 20) hx hb dX9_feed_7 (by decide) ?_
  refine lv_iadd hx hb dX9_feed_9 ?_
  refine pv_i (v := 20) (by decide) ?_
  refine lv_sipush (v := 800) hx hb dX9_feed_10 (by decide) ?_
  refine lv_icmp_le (tgt := 18) hx hb dX9_feed_13 (by decide) (fun _ => ?_) (fun c9 => absurd (by decide) c9)
  refine lv_aload_n hx hb dX9_feed_18 rfl (lv_at hl 0 rfl) ?_
  refine va_get (D := D) (ci := 9) (v := .ref a1) (C := RX9) (T := TX9) (N := 12) hx hb hts (fun w h => uc_in w (inX9 w h)) hown hK hP 0 rfl rfl 0 (by decide) (hts _ (uc_in _ q_f383)) (fun _ h9 => h9) rfl dX9_feed_19 ?_
  refine lv_iload_n hx hb dX9_feed_22 rfl (lv_at hl 1 rfl) ?_
  refine cvV (n := 1) (As := [.int x0]) (rest := []) (wr := [(a0, .inr (9, [.ref a1, .ref a3, .ref a4, .ref a5, .int 0, .ref a6, .ref a7, .ref a8, .ref a9, .ref a10, .ref a11, .ref a12]))]) ⟨hx, hb, hml, hown, hts⟩ uc_in (kX6_take_0 l D cB cI cJ cZ cT cR a1 a2 x0 H.size) q_m424 q_n425 q_e426 q_i2 q_c427 (by decide +kernel) ⟨(Nat.le_of_ble_eq_true rfl), (Nat.le_of_ble_eq_true rfl)⟩ ⟨(Nat.le_of_ble_eq_true rfl), (Nat.le_of_ble_eq_true rfl)⟩ hE hK hP hD hS hA [1, 2] [0] rfl rfl rfl rfl (by decide) 6 0 rfl rfl rfl hl.1 rfl (Nat.le_of_ble_eq_true rfl) dX9_feed_23 (fun u H locs hpo hP hD hS => ?_)
  obtain ⟨f1, rfl⟩ : ∃ z9, z9 = u := ⟨_, rfl⟩
  have hP : va_P D vwCl [(a0, .inr (9, [.ref a1, .ref a3, .ref a4, .ref a5, .int 0, .ref a6, .ref a7, .ref a8, .ref a9, .ref a10, .ref a11, .ref a12])), (a1, .inr (6, [.ref a2, .int 4, .int 0, .int (-1), .int 0, .int 0, .int 0, .int 0])), (a2, .inl (cB, 800, .inl f1))] H := hP
  have hD : va_D AA [(a0, .inr (9, [.ref a1, .ref a3, .ref a4, .ref a5, .int 0, .ref a6, .ref a7, .ref a8, .ref a9, .ref a10, .ref a11, .ref a12])), (a1, .inr (6, [.ref a2, .int 4, .int 0, .int (-1), .int 0, .int 0, .int 0, .int 0])), (a2, .inl (cB, 800, .inl f1))] := hD
  refine W.cs (cells' := 0) (slots' := 0) rfl rfl ?_
  refine lv_aload_n hx hb dX9_feed_26 rfl (lv_at hl 0 rfl) ?_
  refine va_get (D := D) (ci := 9) (v := .ref a1) (C := RX9) (T := TX9) (N := 12) hx hb hts (fun w h => uc_in w (inX9 w h)) hown hK hP 0 rfl rfl 0 (by decide) (hts _ (uc_in _ q_f383)) (fun _ h9 => h9) rfl dX9_feed_27 ?_
  refine lv_iload_n hx hb dX9_feed_30 rfl (lv_at hl 2 rfl) ?_
  refine cvV (n := 1) (As := [.int x1]) (rest := []) (wr := [(a0, .inr (9, [.ref a1, .ref a3, .ref a4, .ref a5, .int 0, .ref a6, .ref a7, .ref a8, .ref a9, .ref a10, .ref a11, .ref a12]))]) ⟨hx, hb, hml, hown, hts⟩ uc_in (kX6_take_1 l D cB cI cJ cZ cT cR a1 a2 x1 f1 H.size) q_m424 q_n425 q_e426 q_i2 q_c427 (by decide +kernel) ⟨(Nat.le_of_ble_eq_true rfl), (Nat.le_of_ble_eq_true rfl)⟩ ⟨(Nat.le_of_ble_eq_true rfl), (Nat.le_of_ble_eq_true rfl)⟩ hE hK hP hD hS hA [1, 2] [0] rfl rfl rfl rfl (by decide) 6 0 rfl rfl rfl hl.1 rfl (Nat.le_of_ble_eq_true rfl) dX9_feed_31 (fun u H locs hpo hP hD hS => ?_)
  obtain ⟨f2, rfl⟩ : ∃ z9, z9 = u := ⟨_, rfl⟩
  have hP : va_P D vwCl [(a0, .inr (9, [.ref a1, .ref a3, .ref a4, .ref a5, .int 0, .ref a6, .ref a7, .ref a8, .ref a9, .ref a10, .ref a11, .ref a12])), (a1, .inr (6, [.ref a2, .int 8, .int 0, .int (-1), .int 0, .int 0, .int 0, .int 0])), (a2, .inl (cB, 800, .inl f2))] H := hP
  have hD : va_D AA [(a0, .inr (9, [.ref a1, .ref a3, .ref a4, .ref a5, .int 0, .ref a6, .ref a7, .ref a8, .ref a9, .ref a10, .ref a11, .ref a12])), (a1, .inr (6, [.ref a2, .int 8, .int 0, .int (-1), .int 0, .int 0, .int 0, .int 0])), (a2, .inl (cB, 800, .inl f2))] := hD
  refine W.cs (cells' := 0) (slots' := 0) rfl rfl ?_
  refine lv_aload_n hx hb dX9_feed_34 rfl (lv_at hl 0 rfl) ?_
  refine va_get (D := D) (ci := 9) (v := .ref a1) (C := RX9) (T := TX9) (N := 12) hx hb hts (fun w h => uc_in w (inX9 w h)) hown hK hP 0 rfl rfl 0 (by decide) (hts _ (uc_in _ q_f383)) (fun _ h9 => h9) rfl dX9_feed_35 ?_
  refine lv_iload_n hx hb dX9_feed_38 rfl (lv_at hl 3 rfl) ?_
  refine cvV (n := 1) (As := [.int x2]) (rest := []) (wr := [(a0, .inr (9, [.ref a1, .ref a3, .ref a4, .ref a5, .int 0, .ref a6, .ref a7, .ref a8, .ref a9, .ref a10, .ref a11, .ref a12]))]) ⟨hx, hb, hml, hown, hts⟩ uc_in (kX6_take_2 l D cB cI cJ cZ cT cR a1 a2 x2 f2 H.size) q_m424 q_n425 q_e426 q_i2 q_c427 (by decide +kernel) ⟨(Nat.le_of_ble_eq_true rfl), (Nat.le_of_ble_eq_true rfl)⟩ ⟨(Nat.le_of_ble_eq_true rfl), (Nat.le_of_ble_eq_true rfl)⟩ hE hK hP hD hS hA [1, 2] [0] rfl rfl rfl rfl (by decide) 6 0 rfl rfl rfl hl.1 rfl (Nat.le_of_ble_eq_true rfl) dX9_feed_39 (fun u H locs hpo hP hD hS => ?_)
  obtain ⟨f3, rfl⟩ : ∃ z9, z9 = u := ⟨_, rfl⟩
  have hP : va_P D vwCl [(a0, .inr (9, [.ref a1, .ref a3, .ref a4, .ref a5, .int 0, .ref a6, .ref a7, .ref a8, .ref a9, .ref a10, .ref a11, .ref a12])), (a1, .inr (6, [.ref a2, .int 12, .int 0, .int (-1), .int 0, .int 0, .int 0, .int 0])), (a2, .inl (cB, 800, .inl f3))] H := hP
  have hD : va_D AA [(a0, .inr (9, [.ref a1, .ref a3, .ref a4, .ref a5, .int 0, .ref a6, .ref a7, .ref a8, .ref a9, .ref a10, .ref a11, .ref a12])), (a1, .inr (6, [.ref a2, .int 12, .int 0, .int (-1), .int 0, .int 0, .int 0, .int 0])), (a2, .inl (cB, 800, .inl f3))] := hD
  refine W.cs (cells' := 0) (slots' := 0) rfl rfl ?_
  refine lv_aload_n hx hb dX9_feed_42 rfl (lv_at hl 0 rfl) ?_
  refine va_get (D := D) (ci := 9) (v := .ref a1) (C := RX9) (T := TX9) (N := 12) hx hb hts (fun w h => uc_in w (inX9 w h)) hown hK hP 0 rfl rfl 0 (by decide) (hts _ (uc_in _ q_f383)) (fun _ h9 => h9) rfl dX9_feed_43 ?_
  refine lv_iload hx hb dX9_feed_46 (lv_at hl 4 rfl) ?_
  refine cvV (n := 1) (As := [.int x3]) (rest := []) (wr := [(a0, .inr (9, [.ref a1, .ref a3, .ref a4, .ref a5, .int 0, .ref a6, .ref a7, .ref a8, .ref a9, .ref a10, .ref a11, .ref a12]))]) ⟨hx, hb, hml, hown, hts⟩ uc_in (kX6_take_3 l D cB cI cJ cZ cT cR a1 a2 x3 f3 H.size) q_m424 q_n425 q_e426 q_i2 q_c427 (by decide +kernel) ⟨(Nat.le_of_ble_eq_true rfl), (Nat.le_of_ble_eq_true rfl)⟩ ⟨(Nat.le_of_ble_eq_true rfl), (Nat.le_of_ble_eq_true rfl)⟩ hE hK hP hD hS hA [1, 2] [0] rfl rfl rfl rfl (by decide) 6 0 rfl rfl rfl hl.1 rfl (Nat.le_of_ble_eq_true rfl) dX9_feed_48 (fun u H locs hpo hP hD hS => ?_)
  obtain ⟨f4, rfl⟩ : ∃ z9, z9 = u := ⟨_, rfl⟩
  have hP : va_P D vwCl [(a0, .inr (9, [.ref a1, .ref a3, .ref a4, .ref a5, .int 0, .ref a6, .ref a7, .ref a8, .ref a9, .ref a10, .ref a11, .ref a12])), (a1, .inr (6, [.ref a2, .int 16, .int 0, .int (-1), .int 0, .int 0, .int 0, .int 0])), (a2, .inl (cB, 800, .inl f4))] H := hP
  have hD : va_D AA [(a0, .inr (9, [.ref a1, .ref a3, .ref a4, .ref a5, .int 0, .ref a6, .ref a7, .ref a8, .ref a9, .ref a10, .ref a11, .ref a12])), (a1, .inr (6, [.ref a2, .int 16, .int 0, .int (-1), .int 0, .int 0, .int 0, .int 0])), (a2, .inl (cB, 800, .inl f4))] := hD
  refine W.cs (cells' := 0) (slots' := 0) rfl rfl ?_
  refine lv_aload_n hx hb dX9_feed_51 rfl (lv_at hl 0 rfl) ?_
  refine va_get (D := D) (ci := 9) (v := .ref a1) (C := RX9) (T := TX9) (N := 12) hx hb hts (fun w h => uc_in w (inX9 w h)) hown hK hP 0 rfl rfl 0 (by decide) (hts _ (uc_in _ q_f383)) (fun _ h9 => h9) rfl dX9_feed_52 ?_
  refine lv_iload hx hb dX9_feed_55 (lv_at hl 5 rfl) ?_
  refine cvV (n := 1) (As := [.int x4]) (rest := []) (wr := [(a0, .inr (9, [.ref a1, .ref a3, .ref a4, .ref a5, .int 0, .ref a6, .ref a7, .ref a8, .ref a9, .ref a10, .ref a11, .ref a12]))]) ⟨hx, hb, hml, hown, hts⟩ uc_in (kX6_take_4 l D cB cI cJ cZ cT cR a1 a2 x4 f4 H.size) q_m424 q_n425 q_e426 q_i2 q_c427 (by decide +kernel) ⟨(Nat.le_of_ble_eq_true rfl), (Nat.le_of_ble_eq_true rfl)⟩ ⟨(Nat.le_of_ble_eq_true rfl), (Nat.le_of_ble_eq_true rfl)⟩ hE hK hP hD hS hA [1, 2] [0] rfl rfl rfl rfl (by decide) 6 0 rfl rfl rfl hl.1 rfl (Nat.le_of_ble_eq_true rfl) dX9_feed_57 (fun u H locs hpo hP hD hS => ?_)
  obtain ⟨f5, rfl⟩ : ∃ z9, z9 = u := ⟨_, rfl⟩
  have hP : va_P D vwCl [(a0, .inr (9, [.ref a1, .ref a3, .ref a4, .ref a5, .int 0, .ref a6, .ref a7, .ref a8, .ref a9, .ref a10, .ref a11, .ref a12])), (a1, .inr (6, [.ref a2, .int 20, .int 0, .int (-1), .int 0, .int 0, .int 0, .int 0])), (a2, .inl (cB, 800, .inl f5))] H := hP
  have hD : va_D AA [(a0, .inr (9, [.ref a1, .ref a3, .ref a4, .ref a5, .int 0, .ref a6, .ref a7, .ref a8, .ref a9, .ref a10, .ref a11, .ref a12])), (a1, .inr (6, [.ref a2, .int 20, .int 0, .int (-1), .int 0, .int 0, .int 0, .int 0])), (a2, .inl (cB, 800, .inl f5))] := hD
  refine W.cs (cells' := 0) (slots' := 0) rfl rfl ?_
  refine lv_aload_n hx hb dX9_feed_60 rfl (lv_at hl 0 rfl) ?_
  refine va_get (D := D) (ci := 9) (v := .ref a1) (C := RX9) (T := TX9) (N := 12) hx hb hts (fun w h => uc_in w (inX9 w h)) hown hK hP 0 rfl rfl 0 (by decide) (hts _ (uc_in _ q_f383)) (fun _ h9 => h9) rfl dX9_feed_61 ?_
  refine va_get (D := D) (ci := 6) (v := .int 20) (C := RX6) (T := TX6) (N := 8) hx hb hts (fun w h => uc_in w (inX6 w h)) hown hK hP 1 rfl rfl 1 (by decide) (hts _ (uc_in _ q_f34)) (fun _ h9 => h9) rfl dX9_feed_64 ?_
  subst hAe
  have hP9 := hP.sub (ws' := [(a0, .inr (9, [.ref a1, .ref a3, .ref a4, .ref a5, .int 0, .ref a6, .ref a7, .ref a8, .ref a9, .ref a10, .ref a11, .ref a12])), (a1, .inr (6, [.ref a2, .int 20, .int 0, .int (-1), .int 0, .int 0, .int 0, .int 0])), (a2, .inl (cB, 800, .inl f5))]) [0, 1, 2] rfl
  have hD9 := hD.sub (ws' := [(a0, .inr (9, [.ref a1, .ref a3, .ref a4, .ref a5, .int 0, .ref a6, .ref a7, .ref a8, .ref a9, .ref a10, .ref a11, .ref a12])), (a1, .inr (6, [.ref a2, .int 20, .int 0, .int (-1), .int 0, .int 0, .int 0, .int 0])), (a2, .inl (cB, 800, .inl f5))]) [0, 1, 2] rfl rfl
  exact W.iret hx hb hr (fun t ht hW => ⟨⟨20, f5, rfl, rfl, by rw [ht]; exact hP9, va_K.moved hW.alike hK, hD9⟩, hS.F ht⟩) hS.2.2 dX9_feed_67
set_option maxHeartbeats 4000000 in
set_option maxRecDepth 100000 in
theorem kX10_four_0 (l : Launch) (D : va_G) (cB cI cJ cZ cT cR : ClassId) (a0 a1 a2 a3 a4 a5 a6 a7 a8 a9 a10 a11 a12 a13 a14 a15 a16 a17 a18 : Nat) (x0 : Int32) (sz : Nat) : Met l yX10_four (uc yX10_four cX10_four 3 none) (rmL 1 0 0) (va_Pc [.ref a0, .int x0] (MPre D [(cB, .byte), (cI, .int), (cJ, .long), (cZ, .boolean), (cT, .object RX7), (cR, .object RX3)] [(a0, .inr (10, [.int 0, .ref a2, .ref a3, .ref a4, .ref a5, .ref a1, .int 0, .int 0, .int 0, .int 0, .int 0, .long 0, .int 0, .int 0, .int 0, .int (-1), .ref a6, .ref a7, .ref a8, .ref a9, .ref a10, .ref a11, .ref a12, .ref a13, .int 0, .int 0, .ref a14, .ref a15, .int 0, .int 0, .int 0, .ref a16, .ref a17, .int 0, .int 0, .int 0, .int 0, .int 0, .ref a18, .int 0, .int 0, .int 0])), (a1, .inl (cB, 800, .inl (fun _ => 0)))] sz)) (va_Qv (fun (_ : (Nat → Int32)) => True) (MB D [(cB, .byte), (cI, .int), (cJ, .long), (cZ, .boolean), (cT, .object RX7), (cR, .object RX3)] [(a0, .inr (10, [.int 0, .ref a2, .ref a3, .ref a4, .ref a5, .ref a1, .int 0, .int 0, .int 0, .int 0, .int 0, .long 0, .int 0, .int 0, .int 0, .int (-1), .ref a6, .ref a7, .ref a8, .ref a9, .ref a10, .ref a11, .ref a12, .ref a13, .int 0, .int 0, .ref a14, .ref a15, .int 0, .int 0, .int 0, .ref a16, .ref a17, .int 0, .int 0, .int 0, .int 0, .int 0, .ref a18, .int 0, .int 0, .int 0])), (a1, .inl (cB, 800, .inl (fun _ => 0)))] sz (fun (u : (Nat → Int32)) => [(a0, .inr (10, [.int 0, .ref a2, .ref a3, .ref a4, .ref a5, .ref a1, .int 4, .int 0, .int 0, .int 0, .int 0, .long 0, .int 0, .int 0, .int 0, .int (-1), .ref a6, .ref a7, .ref a8, .ref a9, .ref a10, .ref a11, .ref a12, .ref a13, .int 0, .int 0, .ref a14, .ref a15, .int 0, .int 0, .int 0, .ref a16, .ref a17, .int 0, .int 0, .int 0, .int 0, .int 0, .ref a18, .int 0, .int 0, .int 0])), (a1, .inl (cB, 800, .inl u))])) (va_A [(a0, .inr (10, [.int 0, .ref a2, .ref a3, .ref a4, .ref a5, .ref a1, .int 0, .int 0, .int 0, .int 0, .int 0, .long 0, .int 0, .int 0, .int 0, .int (-1), .ref a6, .ref a7, .ref a8, .ref a9, .ref a10, .ref a11, .ref a12, .ref a13, .int 0, .int 0, .ref a14, .ref a15, .int 0, .int 0, .int 0, .ref a16, .ref a17, .int 0, .int 0, .int 0, .int 0, .int 0, .ref a18, .int 0, .int 0, .int 0])), (a1, .inl (cB, 800, .inl (fun _ => 0)))] sz)) 0 0 (va_A [(a0, .inr (10, [.int 0, .ref a2, .ref a3, .ref a4, .ref a5, .ref a1, .int 0, .int 0, .int 0, .int 0, .int 0, .long 0, .int 0, .int 0, .int 0, .int (-1), .ref a6, .ref a7, .ref a8, .ref a9, .ref a10, .ref a11, .ref a12, .ref a13, .int 0, .int 0, .ref a14, .ref a15, .int 0, .int 0, .int 0, .ref a16, .ref a17, .int 0, .int 0, .int 0, .int 0, .int 0, .ref a18, .int 0, .int 0, .int 0])), (a1, .inl (cB, 800, .inl (fun _ => 0)))] sz) := by
  refine pm (by decide) (Nat.le_of_ble_eq_true rfl) ?_
  intro p e s m below meth c ls hx hb hr hml hown hlk hnm hts hv hl
  have hown : s.vm.findClass RX10 = some m.cls := hown
  have hl : lv_has ls 3 [(0, .ref a0), (1, .int x0)] := hl
  obtain ⟨hsz, hP, hK, hD0, hE⟩ := hv
  subst hsz
  have hD := hD0.self (sz := s.heap.size)
  obtain ⟨AA, hAe⟩ : ∃ AA, AA = va_A [(a0, .inr (10, [.int 0, .ref a2, .ref a3, .ref a4, .ref a5, .ref a1, .int 0, .int 0, .int 0, .int 0, .int 0, .long 0, .int 0, .int 0, .int 0, .int (-1), .ref a6, .ref a7, .ref a8, .ref a9, .ref a10, .ref a11, .ref a12, .ref a13, .int 0, .int 0, .ref a14, .ref a15, .int 0, .int 0, .int 0, .ref a16, .ref a17, .int 0, .int 0, .int 0, .int 0, .int 0, .ref a18, .int 0, .int 0, .int 0])), (a1, .inl (cB, 800, .inl (fun _ => 0)))] s.heap.size := ⟨_, rfl⟩
  rw [← hAe] at hD
  have hA : ∀ q : Nat, s.heap.size ≤ q → AA q := fun q h => by rw [hAe]; exact Or.inr h
  have hS : va_S AA s.heap s.heap [] := va_S.rf
  obtain ⟨-, hAOT, hAOR, hAOI⟩ := id hE
  refine lv_bipush (v := 24) hx hb dX10_four_0 (by decide) ?_
  refine lv_istore_n (lv' := [(2, .int 24), (0, .ref a0), (1, .int x0)]) hx hb dX10_four_2 rfl hl (by decide) rfl (fun ls hl => ?_)
  refine lv_iload_n hx hb dX10_four_3 rfl (lv_at hl 0 rfl) ?_
  refine lv_if_lt (tgt := 36) hx hb dX10_four_4 (by decide) (fun c9 => absurd c9 (by decide)) (fun _ => ?_)
  refine lv_aload_n hx hb dX10_four_7 rfl (lv_at hl 1 rfl) ?_
  refine va_get (D := D) (ci := 10) (v := .ref a1) (C := RX10) (T := TX10) (N := 42) hx hb hts (fun w h => uc_in w (inX10 w h)) hown hK hP 0 rfl rfl 5 (by decide) (hts _ (uc_in _ q_f1193)) (fun _ h9 => h9) rfl dX10_four_8 ?_
  refine lv_aload_n hx hb dX10_four_11 rfl (lv_at hl 1 rfl) ?_
  refine va_get (D := D) (ci := 10) (v := .int 0) (C := RX10) (T := TX10) (N := 42) hx hb hts (fun w h => uc_in w (inX10 w h)) hown hK hP 0 rfl rfl 6 (by decide) (hts _ (uc_in _ q_f1194)) (fun _ h9 => h9) rfl dX10_four_12 ?_
  refine lv_iload_n hx hb dX10_four_15 rfl (lv_at hl 2 rfl) ?_
  refine lv_iload_n hx hb dX10_four_16 rfl (lv_at hl 0 rfl) ?_
  refine lv_ishr hx hb dX10_four_17 ?_
  refine lv_topi (fun z1 ez1 => ?_)
  refine lv_i2b hx hb dX10_four_18 rfl ?_
  refine lv_topi (fun z2 ez2 => ?_)
  refine va_bast hx hb hK hP hD hS 1 0 rfl rfl (vp_in_iff.mpr ⟨by decide, by decide⟩) dX10_four_19 (fun H locs hP hD hS => ?_)
  obtain ⟨f3, ef3⟩ : ∃ f9, f9 = upd (fun _ => 0) 0.toNatClampNeg (vp_nar .byte z2) := ⟨_, rfl⟩
  rw [← ef3] at hP hD
  have hP : va_P D vwCl [(a0, .inr (10, [.int 0, .ref a2, .ref a3, .ref a4, .ref a5, .ref a1, .int 0, .int 0, .int 0, .int 0, .int 0, .long 0, .int 0, .int 0, .int 0, .int (-1), .ref a6, .ref a7, .ref a8, .ref a9, .ref a10, .ref a11, .ref a12, .ref a13, .int 0, .int 0, .ref a14, .ref a15, .int 0, .int 0, .int 0, .ref a16, .ref a17, .int 0, .int 0, .int 0, .int 0, .int 0, .ref a18, .int 0, .int 0, .int 0])), (a1, .inl (cB, 800, .inl f3))] H := hP
  have hD : va_D AA [(a0, .inr (10, [.int 0, .ref a2, .ref a3, .ref a4, .ref a5, .ref a1, .int 0, .int 0, .int 0, .int 0, .int 0, .long 0, .int 0, .int 0, .int 0, .int (-1), .ref a6, .ref a7, .ref a8, .ref a9, .ref a10, .ref a11, .ref a12, .ref a13, .int 0, .int 0, .ref a14, .ref a15, .int 0, .int 0, .int 0, .ref a16, .ref a17, .int 0, .int 0, .int 0, .int 0, .int 0, .ref a18, .int 0, .int 0, .int 0])), (a1, .inl (cB, 800, .inl f3))] := hD
  refine lv_aload_n hx hb dX10_four_20 rfl (lv_at hl 1 rfl) ?_
  refine lv_dup hx hb dX10_four_21 rfl ?_
  refine va_get (D := D) (ci := 10) (v := .int 0) (C := RX10) (T := TX10) (N := 42) hx hb hts (fun w h => uc_in w (inX10 w h)) hown hK hP 0 rfl rfl 6 (by decide) (hts _ (uc_in _ q_f1194)) (fun _ h9 => h9) rfl dX10_four_22 ?_
  refine lv_iconst (v := 1) hx hb dX10_four_25 (by decide) ?_
  refine lv_iadd hx hb dX10_four_26 ?_
  refine pv_i (v := 1) (by decide) ?_
  refine va_put (D := D) (ci := 10) (v := .int 1) (ty := .int) (C := RX10) (T := TX10) (N := 42) hx hb hts (fun w h => uc_in w (inX10 w h)) tyX10 tyX10_ok nmX10 hown hK hP hD hS 0 rfl rfl 6 (by decide) (hts _ (uc_in _ q_f1194)) (fun _ h9 => h9) rfl (by decide +kernel) rfl rfl (Nat.le_of_ble_eq_true rfl) dX10_four_27 (fun H locs hP hD hS => ?_)
  have hP : va_P D vwCl [(a0, .inr (10, [.int 0, .ref a2, .ref a3, .ref a4, .ref a5, .ref a1, .int 1, .int 0, .int 0, .int 0, .int 0, .long 0, .int 0, .int 0, .int 0, .int (-1), .ref a6, .ref a7, .ref a8, .ref a9, .ref a10, .ref a11, .ref a12, .ref a13, .int 0, .int 0, .ref a14, .ref a15, .int 0, .int 0, .int 0, .ref a16, .ref a17, .int 0, .int 0, .int 0, .int 0, .int 0, .ref a18, .int 0, .int 0, .int 0])), (a1, .inl (cB, 800, .inl f3))] H := hP
  have hD : va_D AA [(a0, .inr (10, [.int 0, .ref a2, .ref a3, .ref a4, .ref a5, .ref a1, .int 1, .int 0, .int 0, .int 0, .int 0, .long 0, .int 0, .int 0, .int 0, .int (-1), .ref a6, .ref a7, .ref a8, .ref a9, .ref a10, .ref a11, .ref a12, .ref a13, .int 0, .int 0, .ref a14, .ref a15, .int 0, .int 0, .int 0, .ref a16, .ref a17, .int 0, .int 0, .int 0, .int 0, .int 0, .ref a18, .int 0, .int 0, .int 0])), (a1, .inl (cB, 800, .inl f3))] := hD
  refine lv_iinc (v := 16) (lv' := [(2, .int 16), (0, .ref a0), (1, .int x0)]) hx hb dX10_four_30 hl (k := 0) rfl (by decide) (by decide) rfl (fun ls hl => ?_)
  refine lv_goto (tgt := 3) hx hb dX10_four_33 (by decide) ?_
  refine lv_iload_n hx hb dX10_four_3 rfl (lv_at hl 0 rfl) ?_
  refine lv_if_lt (tgt := 36) hx hb dX10_four_4 (by decide) (fun c9 => absurd c9 (by decide)) (fun _ => ?_)
  refine lv_aload_n hx hb dX10_four_7 rfl (lv_at hl 1 rfl) ?_
  refine va_get (D := D) (ci := 10) (v := .ref a1) (C := RX10) (T := TX10) (N := 42) hx hb hts (fun w h => uc_in w (inX10 w h)) hown hK hP 0 rfl rfl 5 (by decide) (hts _ (uc_in _ q_f1193)) (fun _ h9 => h9) rfl dX10_four_8 ?_
  refine lv_aload_n hx hb dX10_four_11 rfl (lv_at hl 1 rfl) ?_
  refine va_get (D := D) (ci := 10) (v := .int 1) (C := RX10) (T := TX10) (N := 42) hx hb hts (fun w h => uc_in w (inX10 w h)) hown hK hP 0 rfl rfl 6 (by decide) (hts _ (uc_in _ q_f1194)) (fun _ h9 => h9) rfl dX10_four_12 ?_
  refine lv_iload_n hx hb dX10_four_15 rfl (lv_at hl 2 rfl) ?_
  refine lv_iload_n hx hb dX10_four_16 rfl (lv_at hl 0 rfl) ?_
  refine lv_ishr hx hb dX10_four_17 ?_
  refine lv_topi (fun z4 ez4 => ?_)
  refine lv_i2b hx hb dX10_four_18 rfl ?_
  refine lv_topi (fun z5 ez5 => ?_)
  refine va_bast hx hb hK hP hD hS 1 0 rfl rfl (vp_in_iff.mpr ⟨by decide, by decide⟩) dX10_four_19 (fun H locs hP hD hS => ?_)
  obtain ⟨f6, ef6⟩ : ∃ f9, f9 = upd f3 1.toNatClampNeg (vp_nar .byte z5) := ⟨_, rfl⟩
  rw [← ef6] at hP hD
  have hP : va_P D vwCl [(a0, .inr (10, [.int 0, .ref a2, .ref a3, .ref a4, .ref a5, .ref a1, .int 1, .int 0, .int 0, .int 0, .int 0, .long 0, .int 0, .int 0, .int 0, .int (-1), .ref a6, .ref a7, .ref a8, .ref a9, .ref a10, .ref a11, .ref a12, .ref a13, .int 0, .int 0, .ref a14, .ref a15, .int 0, .int 0, .int 0, .ref a16, .ref a17, .int 0, .int 0, .int 0, .int 0, .int 0, .ref a18, .int 0, .int 0, .int 0])), (a1, .inl (cB, 800, .inl f6))] H := hP
  have hD : va_D AA [(a0, .inr (10, [.int 0, .ref a2, .ref a3, .ref a4, .ref a5, .ref a1, .int 1, .int 0, .int 0, .int 0, .int 0, .long 0, .int 0, .int 0, .int 0, .int (-1), .ref a6, .ref a7, .ref a8, .ref a9, .ref a10, .ref a11, .ref a12, .ref a13, .int 0, .int 0, .ref a14, .ref a15, .int 0, .int 0, .int 0, .ref a16, .ref a17, .int 0, .int 0, .int 0, .int 0, .int 0, .ref a18, .int 0, .int 0, .int 0])), (a1, .inl (cB, 800, .inl f6))] := hD
  refine lv_aload_n hx hb dX10_four_20 rfl (lv_at hl 1 rfl) ?_
  refine lv_dup hx hb dX10_four_21 rfl ?_
  refine va_get (D := D) (ci := 10) (v := .int 1) (C := RX10) (T := TX10) (N := 42) hx hb hts (fun w h => uc_in w (inX10 w h)) hown hK hP 0 rfl rfl 6 (by decide) (hts _ (uc_in _ q_f1194)) (fun _ h9 => h9) rfl dX10_four_22 ?_
  refine lv_iconst (v := 1) hx hb dX10_four_25 (by decide) ?_
  refine lv_iadd hx hb dX10_four_26 ?_
  refine pv_i (v := 2) (by decide) ?_
  refine va_put (D := D) (ci := 10) (v := .int 2) (ty := .int) (C := RX10) (T := TX10) (N := 42) hx hb hts (fun w h => uc_in w (inX10 w h)) tyX10 tyX10_ok nmX10 hown hK hP hD hS 0 rfl rfl 6 (by decide) (hts _ (uc_in _ q_f1194)) (fun _ h9 => h9) rfl (by decide +kernel) rfl rfl (Nat.le_of_ble_eq_true rfl) dX10_four_27 (fun H locs hP hD hS => ?_)
  have hP : va_P D vwCl [(a0, .inr (10, [.int 0, .ref a2, .ref a3, .ref a4, .ref a5, .ref a1, .int 2, .int 0, .int 0, .int 0, .int 0, .long 0, .int 0, .int 0, .int 0, .int (-1), .ref a6, .ref a7, .ref a8, .ref a9, .ref a10, .ref a11, .ref a12, .ref a13, .int 0, .int 0, .ref a14, .ref a15, .int 0, .int 0, .int 0, .ref a16, .ref a17, .int 0, .int 0, .int 0, .int 0, .int 0, .ref a18, .int 0, .int 0, .int 0])), (a1, .inl (cB, 800, .inl f6))] H := hP
  have hD : va_D AA [(a0, .inr (10, [.int 0, .ref a2, .ref a3, .ref a4, .ref a5, .ref a1, .int 2, .int 0, .int 0, .int 0, .int 0, .long 0, .int 0, .int 0, .int 0, .int (-1), .ref a6, .ref a7, .ref a8, .ref a9, .ref a10, .ref a11, .ref a12, .ref a13, .int 0, .int 0, .ref a14, .ref a15, .int 0, .int 0, .int 0, .ref a16, .ref a17, .int 0, .int 0, .int 0, .int 0, .int 0, .ref a18, .int 0, .int 0, .int 0])), (a1, .inl (cB, 800, .inl f6))] := hD
  refine lv_iinc (v := 8) (lv' := [(2, .int 8), (0, .ref a0), (1, .int x0)]) hx hb dX10_four_30 hl (k := 0) rfl (by decide) (by decide) rfl (fun ls hl => ?_)
  refine lv_goto (tgt := 3) hx hb dX10_four_33 (by decide) ?_
  refine lv_iload_n hx hb dX10_four_3 rfl (lv_at hl 0 rfl) ?_
  refine lv_if_lt (tgt := 36) hx hb dX10_four_4 (by decide) (fun c9 => absurd c9 (by decide)) (fun _ => ?_)
  refine lv_aload_n hx hb dX10_four_7 rfl (lv_at hl 1 rfl) ?_
  refine va_get (D := D) (ci := 10) (v := .ref a1) (C := RX10) (T := TX10) (N := 42) hx hb hts (fun w h => uc_in w (inX10 w h)) hown hK hP 0 rfl rfl 5 (by decide) (hts _ (uc_in _ q_f1193)) (fun _ h9 => h9) rfl dX10_four_8 ?_
  refine lv_aload_n hx hb dX10_four_11 rfl (lv_at hl 1 rfl) ?_
  refine va_get (D := D) (ci := 10) (v := .int 2) (C := RX10) (T := TX10) (N := 42) hx hb hts (fun w h => uc_in w (inX10 w h)) hown hK hP 0 rfl rfl 6 (by decide) (hts _ (uc_in _ q_f1194)) (fun _ h9 => h9) rfl dX10_four_12 ?_
  refine lv_iload_n hx hb dX10_four_15 rfl (lv_at hl 2 rfl) ?_
  refine lv_iload_n hx hb dX10_four_16 rfl (lv_at hl 0 rfl) ?_
  refine lv_ishr hx hb dX10_four_17 ?_
  refine lv_topi (fun z7 ez7 => ?_)
  refine lv_i2b hx hb dX10_four_18 rfl ?_
  refine lv_topi (fun z8 ez8 => ?_)
  refine va_bast hx hb hK hP hD hS 1 0 rfl rfl (vp_in_iff.mpr ⟨by decide, by decide⟩) dX10_four_19 (fun H locs hP hD hS => ?_)
  obtain ⟨f9, ef9⟩ : ∃ f9, f9 = upd f6 2.toNatClampNeg (vp_nar .byte z8) := ⟨_, rfl⟩
  rw [← ef9] at hP hD
  have hP : va_P D vwCl [(a0, .inr (10, [.int 0, .ref a2, .ref a3, .ref a4, .ref a5, .ref a1, .int 2, .int 0, .int 0, .int 0, .int 0, .long 0, .int 0, .int 0, .int 0, .int (-1), .ref a6, .ref a7, .ref a8, .ref a9, .ref a10, .ref a11, .ref a12, .ref a13, .int 0, .int 0, .ref a14, .ref a15, .int 0, .int 0, .int 0, .ref a16, .ref a17, .int 0, .int 0, .int 0, .int 0, .int 0, .ref a18, .int 0, .int 0, .int 0])), (a1, .inl (cB, 800, .inl f9))] H := hP
  have hD : va_D AA [(a0, .inr (10, [.int 0, .ref a2, .ref a3, .ref a4, .ref a5, .ref a1, .int 2, .int 0, .int 0, .int 0, .int 0, .long 0, .int 0, .int 0, .int 0, .int (-1), .ref a6, .ref a7, .ref a8, .ref a9, .ref a10, .ref a11, .ref a12, .ref a13, .int 0, .int 0, .ref a14, .ref a15, .int 0, .int 0, .int 0, .ref a16, .ref a17, .int 0, .int 0, .int 0, .int 0, .int 0, .ref a18, .int 0, .int 0, .int 0])), (a1, .inl (cB, 800, .inl f9))] := hD
  refine lv_aload_n hx hb dX10_four_20 rfl (lv_at hl 1 rfl) ?_
  refine lv_dup hx hb dX10_four_21 rfl ?_
  refine va_get (D := D) (ci := 10) (v := .int 2) (C := RX10) (T := TX10) (N := 42) hx hb hts (fun w h => uc_in w (inX10 w h)) hown hK hP 0 rfl rfl 6 (by decide) (hts _ (uc_in _ q_f1194)) (fun _ h9 => h9) rfl dX10_four_22 ?_
  refine lv_iconst (v := 1) hx hb dX10_four_25 (by decide) ?_
  refine lv_iadd hx hb dX10_four_26 ?_
  refine pv_i (v := 3) (by decide) ?_
  refine va_put (D := D) (ci := 10) (v := .int 3) (ty := .int) (C := RX10) (T := TX10) (N := 42) hx hb hts (fun w h => uc_in w (inX10 w h)) tyX10 tyX10_ok nmX10 hown hK hP hD hS 0 rfl rfl 6 (by decide) (hts _ (uc_in _ q_f1194)) (fun _ h9 => h9) rfl (by decide +kernel) rfl rfl (Nat.le_of_ble_eq_true rfl) dX10_four_27 (fun H locs hP hD hS => ?_)
  have hP : va_P D vwCl [(a0, .inr (10, [.int 0, .ref a2, .ref a3, .ref a4, .ref a5, .ref a1, .int 3, .int 0, .int 0, .int 0, .int 0, .long 0, .int 0, .int 0, .int 0, .int (-1), .ref a6, .ref a7, .ref a8, .ref a9, .ref a10, .ref a11, .ref a12, .ref a13, .int 0, .int 0, .ref a14, .ref a15, .int 0, .int 0, .int 0, .ref a16, .ref a17, .int 0, .int 0, .int 0, .int 0, .int 0, .ref a18, .int 0, .int 0, .int 0])), (a1, .inl (cB, 800, .inl f9))] H := hP
  have hD : va_D AA [(a0, .inr (10, [.int 0, .ref a2, .ref a3, .ref a4, .ref a5, .ref a1, .int 3, .int 0, .int 0, .int 0, .int 0, .long 0, .int 0, .int 0, .int 0, .int (-1), .ref a6, .ref a7, .ref a8, .ref a9, .ref a10, .ref a11, .ref a12, .ref a13, .int 0, .int 0, .ref a14, .ref a15, .int 0, .int 0, .int 0, .ref a16, .ref a17, .int 0, .int 0, .int 0, .int 0, .int 0, .ref a18, .int 0, .int 0, .int 0])), (a1, .inl (cB, 800, .inl f9))] := hD
  refine lv_iinc (v := 0) (lv' := [(2, .int 0), (0, .ref a0), (1, .int x0)]) hx hb dX10_four_30 hl (k := 0) rfl (by decide) (by decide) rfl (fun ls hl => ?_)
  refine lv_goto (tgt := 3) hx hb dX10_four_33 (by decide) ?_
  refine lv_iload_n hx hb dX10_four_3 rfl (lv_at hl 0 rfl) ?_
  refine lv_if_lt (tgt := 36) hx hb dX10_four_4 (by decide) (fun c9 => absurd c9 (by decide)) (fun _ => ?_)
  refine lv_aload_n hx hb dX10_four_7 rfl (lv_at hl 1 rfl) ?_
  refine va_get (D := D) (ci := 10) (v := .ref a1) (C := RX10) (T := TX10) (N := 42) hx hb hts (fun w h => uc_in w (inX10 w h)) hown hK hP 0 rfl rfl 5 (by decide) (hts _ (uc_in _ q_f1193)) (fun _ h9 => h9) rfl dX10_four_8 ?_
  refine lv_aload_n hx hb dX10_four_11 rfl (lv_at hl 1 rfl) ?_
  refine va_get (D := D) (ci := 10) (v := .int 3) (C := RX10) (T := TX10) (N := 42) hx hb hts (fun w h => uc_in w (inX10 w h)) hown hK hP 0 rfl rfl 6 (by decide) (hts _ (uc_in _ q_f1194)) (fun _ h9 => h9) rfl dX10_four_12 ?_
  refine lv_iload_n hx hb dX10_four_15 rfl (lv_at hl 2 rfl) ?_
  refine lv_iload_n hx hb dX10_four_16 rfl (lv_at hl 0 rfl) ?_
  refine lv_ishr hx hb dX10_four_17 ?_
  refine lv_topi (fun z10 ez10 => ?_)
  refine lv_i2b hx hb dX10_four_18 rfl ?_
  refine lv_topi (fun z11 ez11 => ?_)
  refine va_bast hx hb hK hP hD hS 1 0 rfl rfl (vp_in_iff.mpr ⟨by decide, by decide⟩) dX10_four_19 (fun H locs hP hD hS => ?_)
  obtain ⟨f12, ef12⟩ : ∃ f9, f9 = upd f9 3.toNatClampNeg (vp_nar .byte z11) := ⟨_, rfl⟩
  rw [← ef12] at hP hD
  have hP : va_P D vwCl [(a0, .inr (10, [.int 0, .ref a2, .ref a3, .ref a4, .ref a5, .ref a1, .int 3, .int 0, .int 0, .int 0, .int 0, .long 0, .int 0, .int 0, .int 0, .int (-1), .ref a6, .ref a7, .ref a8, .ref a9, .ref a10, .ref a11, .ref a12, .ref a13, .int 0, .int 0, .ref a14, .ref a15, .int 0, .int 0, .int 0, .ref a16, .ref a17, .int 0, .int 0, .int 0, .int 0, .int 0, .ref a18, .int 0, .int 0, .int 0])), (a1, .inl (cB, 800, .inl f12))] H := hP
  have hD : va_D AA [(a0, .inr (10, [.int 0, .ref a2, .ref a3, .ref a4, .ref a5, .ref a1, .int 3, .int 0, .int 0, .int 0, .int 0, .long 0, .int 0, .int 0, .int 0, .int (-1), .ref a6, .ref a7, .ref a8, .ref a9, .ref a10, .ref a11, .ref a12, .ref a13, .int 0, .int 0, .ref a14, .ref a15, .int 0, .int 0, .int 0, .ref a16, .ref a17, .int 0, .int 0, .int 0, .int 0, .int 0, .ref a18, .int 0, .int 0, .int 0])), (a1, .inl (cB, 800, .inl f12))] := hD
  refine lv_aload_n hx hb dX10_four_20 rfl (lv_at hl 1 rfl) ?_
  refine lv_dup hx hb dX10_four_21 rfl ?_
  refine va_get (D := D) (ci := 10) (v := .int 3) (C := RX10) (T := TX10) (N := 42) hx hb hts (fun w h => uc_in w (inX10 w h)) hown hK hP 0 rfl rfl 6 (by decide) (hts _ (uc_in _ q_f1194)) (fun _ h9 => h9) rfl dX10_four_22 ?_
  refine lv_iconst (v := 1) hx hb dX10_four_25 (by decide) ?_
  refine lv_iadd hx hb dX10_four_26 ?_
  refine pv_i (v := 4) (by decide) ?_
  refine va_put (D := D) (ci := 10) (v := .int 4) (ty := .int) (C := RX10) (T := TX10) (N := 42) hx hb hts (fun w h => uc_in w (inX10 w h)) tyX10 tyX10_ok nmX10 hown hK hP hD hS 0 rfl rfl 6 (by decide) (hts _ (uc_in _ q_f1194)) (fun _ h9 => h9) rfl (by decide +kernel) rfl rfl (Nat.le_of_ble_eq_true rfl) dX10_four_27 (fun H locs hP hD hS => ?_)
  have hP : va_P D vwCl [(a0, .inr (10, [.int 0, .ref a2, .ref a3, .ref a4, .ref a5, .ref a1, .int 4, .int 0, .int 0, .int 0, .int 0, .long 0, .int 0, .int 0, .int 0, .int (-1), .ref a6, .ref a7, .ref a8, .ref a9, .ref a10, .ref a11, .ref a12, .ref a13, .int 0, .int 0, .ref a14, .ref a15, .int 0, .int 0, .int 0, .ref a16, .ref a17, .int 0, .int 0, .int 0, .int 0, .int 0, .ref a18, .int 0, .int 0, .int 0])), (a1, .inl (cB, 800, .inl f12))] H := hP
  have hD : va_D AA [(a0, .inr (10, [.int 0, .ref a2, .ref a3, .ref a4, .ref a5, .ref a1, .int 4, .int 0, .int 0, .int 0, .int 0, .long 0, .int 0, .int 0, .int 0, .int (-1), .ref a6, .ref a7, .ref a8, .ref a9, .ref a10, .ref a11, .ref a12, .ref a13, .int 0, .int 0, .ref a14, .ref a15, .int 0, .int 0, .int 0, .ref a16, .ref a17, .int 0, .int 0, .int 0, .int 0, .int 0, .ref a18, .int 0, .int 0, .int 0])), (a1, .inl (cB, 800, .inl f12))] := hD
  refine lv_iinc (v := (-8)) (lv' := [(2, .int (-8)), (0, .ref a0), (1, .int x0)]) hx hb dX10_four_30 hl (k := 0) rfl (by decide) (by decide) rfl (fun ls hl => ?_)
  refine lv_goto (tgt := 3) hx hb dX10_four_33 (by decide) ?_
  refine lv_iload_n hx hb dX10_four_3 rfl (lv_at hl 0 rfl) ?_
  refine lv_if_lt (tgt := 36) hx hb dX10_four_4 (by decide) (fun _ => ?_) (fun c9 => absurd (by decide) c9)
  subst hAe
  have hP9 := hP.sub (ws' := [(a0, .inr (10, [.int 0, .ref a2, .ref a3, .ref a4, .ref a5, .ref a1, .int 4, .int 0, .int 0, .int 0, .int 0, .long 0, .int 0, .int 0, .int 0, .int (-1), .ref a6, .ref a7, .ref a8, .ref a9, .ref a10, .ref a11, .ref a12, .ref a13, .int 0, .int 0, .ref a14, .ref a15, .int 0, .int 0, .int 0, .ref a16, .ref a17, .int 0, .int 0, .int 0, .int 0, .int 0, .ref a18, .int 0, .int 0, .int 0])), (a1, .inl (cB, 800, .inl f12))]) [0, 1] rfl
  have hD9 := hD.sub (ws' := [(a0, .inr (10, [.int 0, .ref a2, .ref a3, .ref a4, .ref a5, .ref a1, .int 4, .int 0, .int 0, .int 0, .int 0, .long 0, .int 0, .int 0, .int 0, .int (-1), .ref a6, .ref a7, .ref a8, .ref a9, .ref a10, .ref a11, .ref a12, .ref a13, .int 0, .int 0, .ref a14, .ref a15, .int 0, .int 0, .int 0, .ref a16, .ref a17, .int 0, .int 0, .int 0, .int 0, .int 0, .ref a18, .int 0, .int 0, .int 0])), (a1, .inl (cB, 800, .inl f12))]) [0, 1] rfl rfl
  exact W.vret hx hb hr (fun t ht hW => ⟨⟨f12, rfl, trivial, by rw [ht]; exact hP9, va_K.moved hW.alike hK, hD9⟩, hS.F ht⟩) hS.2.2 dX10_four_36
set_option maxHeartbeats 4000000 in
set_option maxRecDepth 100000 in
theorem kX10_four_1 (l : Launch) (D : va_G) (cB cI cJ cZ cT cR : ClassId) (a0 a1 a2 a3 a4 a5 a6 a7 a8 a9 a10 a11 a12 a13 a14 a15 a16 a17 a18 : Nat) (x0 : Int32) (f90 : Nat → Int32) (sz : Nat) : Met l yX10_four (uc yX10_four cX10_four 3 none) (rmL 1 0 0) (va_Pc [.ref a0, .int x0] (MPre D [(cB, .byte), (cI, .int), (cJ, .long), (cZ, .boolean), (cT, .object RX7), (cR, .object RX3)] [(a0, .inr (10, [.int 0, .ref a2, .ref a3, .ref a4, .ref a5, .ref a1, .int 4, .int 0, .int 0, .int 0, .int 0, .long 0, .int 0, .int 0, .int 0, .int (-1), .ref a6, .ref a7, .ref a8, .ref a9, .ref a10, .ref a11, .ref a12, .ref a13, .int 0, .int 0, .ref a14, .ref a15, .int 0, .int 0, .int 0, .ref a16, .ref a17, .int 0, .int 0, .int 0, .int 0, .int 0, .ref a18, .int 0, .int 0, .int 0])), (a1, .inl (cB, 800, .inl f90))] sz)) (va_Qv (fun (_ : (Nat → Int32)) => True) (MB D [(cB, .byte), (cI, .int), (cJ, .long), (cZ, .boolean), (cT, .object RX7), (cR, .object RX3)] [(a0, .inr (10, [.int 0, .ref a2, .ref a3, .ref a4, .ref a5, .ref a1, .int 4, .int 0, .int 0, .int 0, .int 0, .long 0, .int 0, .int 0, .int 0, .int (-1), .ref a6, .ref a7, .ref a8, .ref a9, .ref a10, .ref a11, .ref a12, .ref a13, .int 0, .int 0, .ref a14, .ref a15, .int 0, .int 0, .int 0, .ref a16, .ref a17, .int 0, .int 0, .int 0, .int 0, .int 0, .ref a18, .int 0, .int 0, .int 0])), (a1, .inl (cB, 800, .inl f90))] sz (fun (u : (Nat → Int32)) => [(a0, .inr (10, [.int 0, .ref a2, .ref a3, .ref a4, .ref a5, .ref a1, .int 8, .int 0, .int 0, .int 0, .int 0, .long 0, .int 0, .int 0, .int 0, .int (-1), .ref a6, .ref a7, .ref a8, .ref a9, .ref a10, .ref a11, .ref a12, .ref a13, .int 0, .int 0, .ref a14, .ref a15, .int 0, .int 0, .int 0, .ref a16, .ref a17, .int 0, .int 0, .int 0, .int 0, .int 0, .ref a18, .int 0, .int 0, .int 0])), (a1, .inl (cB, 800, .inl u))])) (va_A [(a0, .inr (10, [.int 0, .ref a2, .ref a3, .ref a4, .ref a5, .ref a1, .int 4, .int 0, .int 0, .int 0, .int 0, .long 0, .int 0, .int 0, .int 0, .int (-1), .ref a6, .ref a7, .ref a8, .ref a9, .ref a10, .ref a11, .ref a12, .ref a13, .int 0, .int 0, .ref a14, .ref a15, .int 0, .int 0, .int 0, .ref a16, .ref a17, .int 0, .int 0, .int 0, .int 0, .int 0, .ref a18, .int 0, .int 0, .int 0])), (a1, .inl (cB, 800, .inl f90))] sz)) 0 0 (va_A [(a0, .inr (10, [.int 0, .ref a2, .ref a3, .ref a4, .ref a5, .ref a1, .int 4, .int 0, .int 0, .int 0, .int 0, .long 0, .int 0, .int 0, .int 0, .int (-1), .ref a6, .ref a7, .ref a8, .ref a9, .ref a10, .ref a11, .ref a12, .ref a13, .int 0, .int 0, .ref a14, .ref a15, .int 0, .int 0, .int 0, .ref a16, .ref a17, .int 0, .int 0, .int 0, .int 0, .int 0, .ref a18, .int 0, .int 0, .int 0])), (a1, .inl (cB, 800, .inl f90))] sz) := by
  refine pm (by decide) (Nat.le_of_ble_eq_true rfl) ?_
  intro p e s m below meth c ls hx hb hr hml hown hlk hnm hts hv hl
  have hown : s.vm.findClass RX10 = some m.cls := hown
  have hl : lv_has ls 3 [(0, .ref a0), (1, .int x0)] := hl
  obtain ⟨hsz, hP, hK, hD0, hE⟩ := hv
  subst hsz
  have hD := hD0.self (sz := s.heap.size)
  obtain ⟨AA, hAe⟩ : ∃ AA, AA = va_A [(a0, .inr (10, [.int 0, .ref a2, .ref a3, .ref a4, .ref a5, .ref a1, .int 4, .int 0, .int 0, .int 0, .int 0, .long 0, .int 0, .int 0, .int 0, .int (-1), .ref a6, .ref a7, .ref a8, .ref a9, .ref a10, .ref a11, .ref a12, .ref a13, .int 0, .int 0, .ref a14, .ref a15, .int 0, .int 0, .int 0, .ref a16, .ref a17, .int 0, .int 0, .int 0, .int 0, .int 0, .ref a18, .int 0, .int 0, .int 0])), (a1, .inl (cB, 800, .inl f90))] s.heap.size := ⟨_, rfl⟩
  rw [← hAe] at hD
  have hA : ∀ q : Nat, s.heap.size ≤ q → AA q := fun q h => by rw [hAe]; exact Or.inr h
  have hS : va_S AA s.heap s.heap [] := va_S.rf
  obtain ⟨-, hAOT, hAOR, hAOI⟩ := id hE
  refine lv_bipush (v := 24) hx hb dX10_four_0 (by decide) ?_
  refine lv_istore_n (lv' := [(2, .int 24), (0, .ref a0), (1, .int x0)]) hx hb dX10_four_2 rfl hl (by decide) rfl (fun ls hl => ?_)
  refine lv_iload_n hx hb dX10_four_3 rfl (lv_at hl 0 rfl) ?_
  refine lv_if_lt (tgt := 36) hx hb dX10_four_4 (by decide) (fun c9 => absurd c9 (by decide)) (fun _ => ?_)
  refine lv_aload_n hx hb dX10_four_7 rfl (lv_at hl 1 rfl) ?_
  refine va_get (D := D) (ci := 10) (v := .ref a1) (C := RX10) (T := TX10) (N := 42) hx hb hts (fun w h => uc_in w (inX10 w h)) hown hK hP 0 rfl rfl 5 (by decide) (hts _ (uc_in _ q_f1193)) (fun _ h9 => h9) rfl dX10_four_8 ?_
  refine lv_aload_n hx hb dX10_four_11 rfl (lv_at hl 1 rfl) ?_
  refine va_get (D := D) (ci := 10) (v := .int 4) (C := RX10) (T := TX10) (N := 42) hx hb hts (fun w h => uc_in w (inX10 w h)) hown hK hP 0 rfl rfl 6 (by decide) (hts _ (uc_in _ q_f1194)) (fun _ h9 => h9) rfl dX10_four_12 ?_
  refine lv_iload_n hx hb dX10_four_15 rfl (lv_at hl 2 rfl) ?_
  refine lv_iload_n hx hb dX10_four_16 rfl (lv_at hl 0 rfl) ?_
  refine lv_ishr hx hb dX10_four_17 ?_
  refine lv_topi (fun z1 ez1 => ?_)
  refine lv_i2b hx hb dX10_four_18 rfl ?_
  refine lv_topi (fun z2 ez2 => ?_)
  refine va_bast hx hb hK hP hD hS 1 0 rfl rfl (vp_in_iff.mpr ⟨by decide, by decide⟩) dX10_four_19 (fun H locs hP hD hS => ?_)
  obtain ⟨f3, ef3⟩ : ∃ f9, f9 = upd f90 4.toNatClampNeg (vp_nar .byte z2) := ⟨_, rfl⟩
  rw [← ef3] at hP hD
  have hP : va_P D vwCl [(a0, .inr (10, [.int 0, .ref a2, .ref a3, .ref a4, .ref a5, .ref a1, .int 4, .int 0, .int 0, .int 0, .int 0, .long 0, .int 0, .int 0, .int 0, .int (-1), .ref a6, .ref a7, .ref a8, .ref a9, .ref a10, .ref a11, .ref a12, .ref a13, .int 0, .int 0, .ref a14, .ref a15, .int 0, .int 0, .int 0, .ref a16, .ref a17, .int 0, .int 0, .int 0, .int 0, .int 0, .ref a18, .int 0, .int 0, .int 0])), (a1, .inl (cB, 800, .inl f3))] H := hP
  have hD : va_D AA [(a0, .inr (10, [.int 0, .ref a2, .ref a3, .ref a4, .ref a5, .ref a1, .int 4, .int 0, .int 0, .int 0, .int 0, .long 0, .int 0, .int 0, .int 0, .int (-1), .ref a6, .ref a7, .ref a8, .ref a9, .ref a10, .ref a11, .ref a12, .ref a13, .int 0, .int 0, .ref a14, .ref a15, .int 0, .int 0, .int 0, .ref a16, .ref a17, .int 0, .int 0, .int 0, .int 0, .int 0, .ref a18, .int 0, .int 0, .int 0])), (a1, .inl (cB, 800, .inl f3))] := hD
  refine lv_aload_n hx hb dX10_four_20 rfl (lv_at hl 1 rfl) ?_
  refine lv_dup hx hb dX10_four_21 rfl ?_
  refine va_get (D := D) (ci := 10) (v := .int 4) (C := RX10) (T := TX10) (N := 42) hx hb hts (fun w h => uc_in w (inX10 w h)) hown hK hP 0 rfl rfl 6 (by decide) (hts _ (uc_in _ q_f1194)) (fun _ h9 => h9) rfl dX10_four_22 ?_
  refine lv_iconst (v := 1) hx hb dX10_four_25 (by decide) ?_
  refine lv_iadd hx hb dX10_four_26 ?_
  refine pv_i (v := 5) (by decide) ?_
  refine va_put (D := D) (ci := 10) (v := .int 5) (ty := .int) (C := RX10) (T := TX10) (N := 42) hx hb hts (fun w h => uc_in w (inX10 w h)) tyX10 tyX10_ok nmX10 hown hK hP hD hS 0 rfl rfl 6 (by decide) (hts _ (uc_in _ q_f1194)) (fun _ h9 => h9) rfl (by decide +kernel) rfl rfl (Nat.le_of_ble_eq_true rfl) dX10_four_27 (fun H locs hP hD hS => ?_)
  have hP : va_P D vwCl [(a0, .inr (10, [.int 0, .ref a2, .ref a3, .ref a4, .ref a5, .ref a1, .int 5, .int 0, .int 0, .int 0, .int 0, .long 0, .int 0, .int 0, .int 0, .int (-1), .ref a6, .ref a7, .ref a8, .ref a9, .ref a10, .ref a11, .ref a12, .ref a13, .int 0, .int 0, .ref a14, .ref a15, .int 0, .int 0, .int 0, .ref a16, .ref a17, .int 0, .int 0, .int 0, .int 0, .int 0, .ref a18, .int 0, .int 0, .int 0])), (a1, .inl (cB, 800, .inl f3))] H := hP
  have hD : va_D AA [(a0, .inr (10, [.int 0, .ref a2, .ref a3, .ref a4, .ref a5, .ref a1, .int 5, .int 0, .int 0, .int 0, .int 0, .long 0, .int 0, .int 0, .int 0, .int (-1), .ref a6, .ref a7, .ref a8, .ref a9, .ref a10, .ref a11, .ref a12, .ref a13, .int 0, .int 0, .ref a14, .ref a15, .int 0, .int 0, .int 0, .ref a16, .ref a17, .int 0, .int 0, .int 0, .int 0, .int 0, .ref a18, .int 0, .int 0, .int 0])), (a1, .inl (cB, 800, .inl f3))] := hD
  refine lv_iinc (v := 16) (lv' := [(2, .int 16), (0, .ref a0), (1, .int x0)]) hx hb dX10_four_30 hl (k := 0) rfl (by decide) (by decide) rfl (fun ls hl => ?_)
  refine lv_goto (tgt := 3) hx hb dX10_four_33 (by decide) ?_
  refine lv_iload_n hx hb dX10_four_3 rfl (lv_at hl 0 rfl) ?_
  refine lv_if_lt (tgt := 36) hx hb dX10_four_4 (by decide) (fun c9 => absurd c9 (by decide)) (fun _ => ?_)
  refine lv_aload_n hx hb dX10_four_7 rfl (lv_at hl 1 rfl) ?_
  refine va_get (D := D) (ci := 10) (v := .ref a1) (C := RX10) (T := TX10) (N := 42) hx hb hts (fun w h => uc_in w (inX10 w h)) hown hK hP 0 rfl rfl 5 (by decide) (hts _ (uc_in _ q_f1193)) (fun _ h9 => h9) rfl dX10_four_8 ?_
  refine lv_aload_n hx hb dX10_four_11 rfl (lv_at hl 1 rfl) ?_
  refine va_get (D := D) (ci := 10) (v := .int 5) (C := RX10) (T := TX10) (N := 42) hx hb hts (fun w h => uc_in w (inX10 w h)) hown hK hP 0 rfl rfl 6 (by decide) (hts _ (uc_in _ q_f1194)) (fun _ h9 => h9) rfl dX10_four_12 ?_
  refine lv_iload_n hx hb dX10_four_15 rfl (lv_at hl 2 rfl) ?_
  refine lv_iload_n hx hb dX10_four_16 rfl (lv_at hl 0 rfl) ?_
  refine lv_ishr hx hb dX10_four_17 ?_
  refine lv_topi (fun z4 ez4 => ?_)
  refine lv_i2b hx hb dX10_four_18 rfl ?_
  refine lv_topi (fun z5 ez5 => ?_)
  refine va_bast hx hb hK hP hD hS 1 0 rfl rfl (vp_in_iff.mpr ⟨by decide, by decide⟩) dX10_four_19 (fun H locs hP hD hS => ?_)
  obtain ⟨f6, ef6⟩ : ∃ f9, f9 = upd f3 5.toNatClampNeg (vp_nar .byte z5) := ⟨_, rfl⟩
  rw [← ef6] at hP hD
  have hP : va_P D vwCl [(a0, .inr (10, [.int 0, .ref a2, .ref a3, .ref a4, .ref a5, .ref a1, .int 5, .int 0, .int 0, .int 0, .int 0, .long 0, .int 0, .int 0, .int 0, .int (-1), .ref a6, .ref a7, .ref a8, .ref a9, .ref a10, .ref a11, .ref a12, .ref a13, .int 0, .int 0, .ref a14, .ref a15, .int 0, .int 0, .int 0, .ref a16, .ref a17, .int 0, .int 0, .int 0, .int 0, .int 0, .ref a18, .int 0, .int 0, .int 0])), (a1, .inl (cB, 800, .inl f6))] H := hP
  have hD : va_D AA [(a0, .inr (10, [.int 0, .ref a2, .ref a3, .ref a4, .ref a5, .ref a1, .int 5, .int 0, .int 0, .int 0, .int 0, .long 0, .int 0, .int 0, .int 0, .int (-1), .ref a6, .ref a7, .ref a8, .ref a9, .ref a10, .ref a11, .ref a12, .ref a13, .int 0, .int 0, .ref a14, .ref a15, .int 0, .int 0, .int 0, .ref a16, .ref a17, .int 0, .int 0, .int 0, .int 0, .int 0, .ref a18, .int 0, .int 0, .int 0])), (a1, .inl (cB, 800, .inl f6))] := hD
  refine lv_aload_n hx hb dX10_four_20 rfl (lv_at hl 1 rfl) ?_
  refine lv_dup hx hb dX10_four_21 rfl ?_
  refine va_get (D := D) (ci := 10) (v := .int 5) (C := RX10) (T := TX10) (N := 42) hx hb hts (fun w h => uc_in w (inX10 w h)) hown hK hP 0 rfl rfl 6 (by decide) (hts _ (uc_in _ q_f1194)) (fun _ h9 => h9) rfl dX10_four_22 ?_
  refine lv_iconst (v := 1) hx hb dX10_four_25 (by decide) ?_
  refine lv_iadd hx hb dX10_four_26 ?_
  refine pv_i (v := 6) (by decide) ?_
  refine va_put (D := D) (ci := 10) (v := .int 6) (ty := .int) (C := RX10) (T := TX10) (N := 42) hx hb hts (fun w h => uc_in w (inX10 w h)) tyX10 tyX10_ok nmX10 hown hK hP hD hS 0 rfl rfl 6 (by decide) (hts _ (uc_in _ q_f1194)) (fun _ h9 => h9) rfl (by decide +kernel) rfl rfl (Nat.le_of_ble_eq_true rfl) dX10_four_27 (fun H locs hP hD hS => ?_)
  have hP : va_P D vwCl [(a0, .inr (10, [.int 0, .ref a2, .ref a3, .ref a4, .ref a5, .ref a1, .int 6, .int 0, .int 0, .int 0, .int 0, .long 0, .int 0, .int 0, .int 0, .int (-1), .ref a6, .ref a7, .ref a8, .ref a9, .ref a10, .ref a11, .ref a12, .ref a13, .int 0, .int 0, .ref a14, .ref a15, .int 0, .int 0, .int 0, .ref a16, .ref a17, .int 0, .int 0, .int 0, .int 0, .int 0, .ref a18, .int 0, .int 0, .int 0])), (a1, .inl (cB, 800, .inl f6))] H := hP
  have hD : va_D AA [(a0, .inr (10, [.int 0, .ref a2, .ref a3, .ref a4, .ref a5, .ref a1, .int 6, .int 0, .int 0, .int 0, .int 0, .long 0, .int 0, .int 0, .int 0, .int (-1), .ref a6, .ref a7, .ref a8, .ref a9, .ref a10, .ref a11, .ref a12, .ref a13, .int 0, .int 0, .ref a14, .ref a15, .int 0, .int 0, .int 0, .ref a16, .ref a17, .int 0, .int 0, .int 0, .int 0, .int 0, .ref a18, .int 0, .int 0, .int 0])), (a1, .inl (cB, 800, .inl f6))] := hD
  refine lv_iinc (v := 8) (lv' := [(2, .int 8), (0, .ref a0), (1, .int x0)]) hx hb dX10_four_30 hl (k := 0) rfl (by decide) (by decide) rfl (fun ls hl => ?_)
  refine lv_goto (tgt := 3) hx hb dX10_four_33 (by decide) ?_
  refine lv_iload_n hx hb dX10_four_3 rfl (lv_at hl 0 rfl) ?_
  refine lv_if_lt (tgt := 36) hx hb dX10_four_4 (by decide) (fun c9 => absurd c9 (by decide)) (fun _ => ?_)
  refine lv_aload_n hx hb dX10_four_7 rfl (lv_at hl 1 rfl) ?_
  refine va_get (D := D) (ci := 10) (v := .ref a1) (C := RX10) (T := TX10) (N := 42) hx hb hts (fun w h => uc_in w (inX10 w h)) hown hK hP 0 rfl rfl 5 (by decide) (hts _ (uc_in _ q_f1193)) (fun _ h9 => h9) rfl dX10_four_8 ?_
  refine lv_aload_n hx hb dX10_four_11 rfl (lv_at hl 1 rfl) ?_
  refine va_get (D := D) (ci := 10) (v := .int 6) (C := RX10) (T := TX10) (N := 42) hx hb hts (fun w h => uc_in w (inX10 w h)) hown hK hP 0 rfl rfl 6 (by decide) (hts _ (uc_in _ q_f1194)) (fun _ h9 => h9) rfl dX10_four_12 ?_
  refine lv_iload_n hx hb dX10_four_15 rfl (lv_at hl 2 rfl) ?_
  refine lv_iload_n hx hb dX10_four_16 rfl (lv_at hl 0 rfl) ?_
  refine lv_ishr hx hb dX10_four_17 ?_
  refine lv_topi (fun z7 ez7 => ?_)
  refine lv_i2b hx hb dX10_four_18 rfl ?_
  refine lv_topi (fun z8 ez8 => ?_)
  refine va_bast hx hb hK hP hD hS 1 0 rfl rfl (vp_in_iff.mpr ⟨by decide, by decide⟩) dX10_four_19 (fun H locs hP hD hS => ?_)
  obtain ⟨f9, ef9⟩ : ∃ f9, f9 = upd f6 6.toNatClampNeg (vp_nar .byte z8) := ⟨_, rfl⟩
  rw [← ef9] at hP hD
  have hP : va_P D vwCl [(a0, .inr (10, [.int 0, .ref a2, .ref a3, .ref a4, .ref a5, .ref a1, .int 6, .int 0, .int 0, .int 0, .int 0, .long 0, .int 0, .int 0, .int 0, .int (-1), .ref a6, .ref a7, .ref a8, .ref a9, .ref a10, .ref a11, .ref a12, .ref a13, .int 0, .int 0, .ref a14, .ref a15, .int 0, .int 0, .int 0, .ref a16, .ref a17, .int 0, .int 0, .int 0, .int 0, .int 0, .ref a18, .int 0, .int 0, .int 0])), (a1, .inl (cB, 800, .inl f9))] H := hP
  have hD : va_D AA [(a0, .inr (10, [.int 0, .ref a2, .ref a3, .ref a4, .ref a5, .ref a1, .int 6, .int 0, .int 0, .int 0, .int 0, .long 0, .int 0, .int 0, .int 0, .int (-1), .ref a6, .ref a7, .ref a8, .ref a9, .ref a10, .ref a11, .ref a12, .ref a13, .int 0, .int 0, .ref a14, .ref a15, .int 0, .int 0, .int 0, .ref a16, .ref a17, .int 0, .int 0, .int 0, .int 0, .int 0, .ref a18, .int 0, .int 0, .int 0])), (a1, .inl (cB, 800, .inl f9))] := hD
  refine lv_aload_n hx hb dX10_four_20 rfl (lv_at hl 1 rfl) ?_
  refine lv_dup hx hb dX10_four_21 rfl ?_
  refine va_get (D := D) (ci := 10) (v := .int 6) (C := RX10) (T := TX10) (N := 42) hx hb hts (fun w h => uc_in w (inX10 w h)) hown hK hP 0 rfl rfl 6 (by decide) (hts _ (uc_in _ q_f1194)) (fun _ h9 => h9) rfl dX10_four_22 ?_
  refine lv_iconst (v := 1) hx hb dX10_four_25 (by decide) ?_
  refine lv_iadd hx hb dX10_four_26 ?_
  refine pv_i (v := 7) (by decide) ?_
  refine va_put (D := D) (ci := 10) (v := .int 7) (ty := .int) (C := RX10) (T := TX10) (N := 42) hx hb hts (fun w h => uc_in w (inX10 w h)) tyX10 tyX10_ok nmX10 hown hK hP hD hS 0 rfl rfl 6 (by decide) (hts _ (uc_in _ q_f1194)) (fun _ h9 => h9) rfl (by decide +kernel) rfl rfl (Nat.le_of_ble_eq_true rfl) dX10_four_27 (fun H locs hP hD hS => ?_)
  have hP : va_P D vwCl [(a0, .inr (10, [.int 0, .ref a2, .ref a3, .ref a4, .ref a5, .ref a1, .int 7, .int 0, .int 0, .int 0, .int 0, .long 0, .int 0, .int 0, .int 0, .int (-1), .ref a6, .ref a7, .ref a8, .ref a9, .ref a10, .ref a11, .ref a12, .ref a13, .int 0, .int 0, .ref a14, .ref a15, .int 0, .int 0, .int 0, .ref a16, .ref a17, .int 0, .int 0, .int 0, .int 0, .int 0, .ref a18, .int 0, .int 0, .int 0])), (a1, .inl (cB, 800, .inl f9))] H := hP
  have hD : va_D AA [(a0, .inr (10, [.int 0, .ref a2, .ref a3, .ref a4, .ref a5, .ref a1, .int 7, .int 0, .int 0, .int 0, .int 0, .long 0, .int 0, .int 0, .int 0, .int (-1), .ref a6, .ref a7, .ref a8, .ref a9, .ref a10, .ref a11, .ref a12, .ref a13, .int 0, .int 0, .ref a14, .ref a15, .int 0, .int 0, .int 0, .ref a16, .ref a17, .int 0, .int 0, .int 0, .int 0, .int 0, .ref a18, .int 0, .int 0, .int 0])), (a1, .inl (cB, 800, .inl f9))] := hD
  refine lv_iinc (v := 0) (lv' := [(2, .int 0), (0, .ref a0), (1, .int x0)]) hx hb dX10_four_30 hl (k := 0) rfl (by decide) (by decide) rfl (fun ls hl => ?_)
  refine lv_goto (tgt := 3) hx hb dX10_four_33 (by decide) ?_
  refine lv_iload_n hx hb dX10_four_3 rfl (lv_at hl 0 rfl) ?_
  refine lv_if_lt (tgt := 36) hx hb dX10_four_4 (by decide) (fun c9 => absurd c9 (by decide)) (fun _ => ?_)
  refine lv_aload_n hx hb dX10_four_7 rfl (lv_at hl 1 rfl) ?_
  refine va_get (D := D) (ci := 10) (v := .ref a1) (C := RX10) (T := TX10) (N := 42) hx hb hts (fun w h => uc_in w (inX10 w h)) hown hK hP 0 rfl rfl 5 (by decide) (hts _ (uc_in _ q_f1193)) (fun _ h9 => h9) rfl dX10_four_8 ?_
  refine lv_aload_n hx hb dX10_four_11 rfl (lv_at hl 1 rfl) ?_
  refine va_get (D := D) (ci := 10) (v := .int 7) (C := RX10) (T := TX10) (N := 42) hx hb hts (fun w h => uc_in w (inX10 w h)) hown hK hP 0 rfl rfl 6 (by decide) (hts _ (uc_in _ q_f1194)) (fun _ h9 => h9) rfl dX10_four_12 ?_
  refine lv_iload_n hx hb dX10_four_15 rfl (lv_at hl 2 rfl) ?_
  refine lv_iload_n hx hb dX10_four_16 rfl (lv_at hl 0 rfl) ?_
  refine lv_ishr hx hb dX10_four_17 ?_
  refine lv_topi (fun z10 ez10 => ?_)
  refine lv_i2b hx hb dX10_four_18 rfl ?_
  refine lv_topi (fun z11 ez11 => ?_)
  refine va_bast hx hb hK hP hD hS 1 0 rfl rfl (vp_in_iff.mpr ⟨by decide, by decide⟩) dX10_four_19 (fun H locs hP hD hS => ?_)
  obtain ⟨f12, ef12⟩ : ∃ f9, f9 = upd f9 7.toNatClampNeg (vp_nar .byte z11) := ⟨_, rfl⟩
  rw [← ef12] at hP hD
  have hP : va_P D vwCl [(a0, .inr (10, [.int 0, .ref a2, .ref a3, .ref a4, .ref a5, .ref a1, .int 7, .int 0, .int 0, .int 0, .int 0, .long 0, .int 0, .int 0, .int 0, .int (-1), .ref a6, .ref a7, .ref a8, .ref a9, .ref a10, .ref a11, .ref a12, .ref a13, .int 0, .int 0, .ref a14, .ref a15, .int 0, .int 0, .int 0, .ref a16, .ref a17, .int 0, .int 0, .int 0, .int 0, .int 0, .ref a18, .int 0, .int 0, .int 0])), (a1, .inl (cB, 800, .inl f12))] H := hP
  have hD : va_D AA [(a0, .inr (10, [.int 0, .ref a2, .ref a3, .ref a4, .ref a5, .ref a1, .int 7, .int 0, .int 0, .int 0, .int 0, .long 0, .int 0, .int 0, .int 0, .int (-1), .ref a6, .ref a7, .ref a8, .ref a9, .ref a10, .ref a11, .ref a12, .ref a13, .int 0, .int 0, .ref a14, .ref a15, .int 0, .int 0, .int 0, .ref a16, .ref a17, .int 0, .int 0, .int 0, .int 0, .int 0, .ref a18, .int 0, .int 0, .int 0])), (a1, .inl (cB, 800, .inl f12))] := hD
  refine lv_aload_n hx hb dX10_four_20 rfl (lv_at hl 1 rfl) ?_
  refine lv_dup hx hb dX10_four_21 rfl ?_
  refine va_get (D := D) (ci := 10) (v := .int 7) (C := RX10) (T := TX10) (N := 42) hx hb hts (fun w h => uc_in w (inX10 w h)) hown hK hP 0 rfl rfl 6 (by decide) (hts _ (uc_in _ q_f1194)) (fun _ h9 => h9) rfl dX10_four_22 ?_
  refine lv_iconst (v := 1) hx hb dX10_four_25 (by decide) ?_
  refine lv_iadd hx hb dX10_four_26 ?_
  refine pv_i (v := 8) (by decide) ?_
  refine va_put (D := D) (ci := 10) (v := .int 8) (ty := .int) (C := RX10) (T := TX10) (N := 42) hx hb hts (fun w h => uc_in w (inX10 w h)) tyX10 tyX10_ok nmX10 hown hK hP hD hS 0 rfl rfl 6 (by decide) (hts _ (uc_in _ q_f1194)) (fun _ h9 => h9) rfl (by decide +kernel) rfl rfl (Nat.le_of_ble_eq_true rfl) dX10_four_27 (fun H locs hP hD hS => ?_)
  have hP : va_P D vwCl [(a0, .inr (10, [.int 0, .ref a2, .ref a3, .ref a4, .ref a5, .ref a1, .int 8, .int 0, .int 0, .int 0, .int 0, .long 0, .int 0, .int 0, .int 0, .int (-1), .ref a6, .ref a7, .ref a8, .ref a9, .ref a10, .ref a11, .ref a12, .ref a13, .int 0, .int 0, .ref a14, .ref a15, .int 0, .int 0, .int 0, .ref a16, .ref a17, .int 0, .int 0, .int 0, .int 0, .int 0, .ref a18, .int 0, .int 0, .int 0])), (a1, .inl (cB, 800, .inl f12))] H := hP
  have hD : va_D AA [(a0, .inr (10, [.int 0, .ref a2, .ref a3, .ref a4, .ref a5, .ref a1, .int 8, .int 0, .int 0, .int 0, .int 0, .long 0, .int 0, .int 0, .int 0, .int (-1), .ref a6, .ref a7, .ref a8, .ref a9, .ref a10, .ref a11, .ref a12, .ref a13, .int 0, .int 0, .ref a14, .ref a15, .int 0, .int 0, .int 0, .ref a16, .ref a17, .int 0, .int 0, .int 0, .int 0, .int 0, .ref a18, .int 0, .int 0, .int 0])), (a1, .inl (cB, 800, .inl f12))] := hD
  refine lv_iinc (v := (-8)) (lv' := [(2, .int (-8)), (0, .ref a0), (1, .int x0)]) hx hb dX10_four_30 hl (k := 0) rfl (by decide) (by decide) rfl (fun ls hl => ?_)
  refine lv_goto (tgt := 3) hx hb dX10_four_33 (by decide) ?_
  refine lv_iload_n hx hb dX10_four_3 rfl (lv_at hl 0 rfl) ?_
  refine lv_if_lt (tgt := 36) hx hb dX10_four_4 (by decide) (fun _ => ?_) (fun c9 => absurd (by decide) c9)
  subst hAe
  have hP9 := hP.sub (ws' := [(a0, .inr (10, [.int 0, .ref a2, .ref a3, .ref a4, .ref a5, .ref a1, .int 8, .int 0, .int 0, .int 0, .int 0, .long 0, .int 0, .int 0, .int 0, .int (-1), .ref a6, .ref a7, .ref a8, .ref a9, .ref a10, .ref a11, .ref a12, .ref a13, .int 0, .int 0, .ref a14, .ref a15, .int 0, .int 0, .int 0, .ref a16, .ref a17, .int 0, .int 0, .int 0, .int 0, .int 0, .ref a18, .int 0, .int 0, .int 0])), (a1, .inl (cB, 800, .inl f12))]) [0, 1] rfl
  have hD9 := hD.sub (ws' := [(a0, .inr (10, [.int 0, .ref a2, .ref a3, .ref a4, .ref a5, .ref a1, .int 8, .int 0, .int 0, .int 0, .int 0, .long 0, .int 0, .int 0, .int 0, .int (-1), .ref a6, .ref a7, .ref a8, .ref a9, .ref a10, .ref a11, .ref a12, .ref a13, .int 0, .int 0, .ref a14, .ref a15, .int 0, .int 0, .int 0, .ref a16, .ref a17, .int 0, .int 0, .int 0, .int 0, .int 0, .ref a18, .int 0, .int 0, .int 0])), (a1, .inl (cB, 800, .inl f12))]) [0, 1] rfl rfl
  exact W.vret hx hb hr (fun t ht hW => ⟨⟨f12, rfl, trivial, by rw [ht]; exact hP9, va_K.moved hW.alike hK, hD9⟩, hS.F ht⟩) hS.2.2 dX10_four_36
set_option maxHeartbeats 4000000 in
set_option maxRecDepth 100000 in
theorem kX10_four_2 (l : Launch) (D : va_G) (cB cI cJ cZ cT cR : ClassId) (a0 a1 a2 a3 a4 a5 a6 a7 a8 a9 a10 a11 a12 a13 a14 a15 a16 a17 a18 : Nat) (x0 : Int32) (f90 : Nat → Int32) (sz : Nat) : Met l yX10_four (uc yX10_four cX10_four 3 none) (rmL 1 0 0) (va_Pc [.ref a0, .int x0] (MPre D [(cB, .byte), (cI, .int), (cJ, .long), (cZ, .boolean), (cT, .object RX7), (cR, .object RX3)] [(a0, .inr (10, [.int 0, .ref a2, .ref a3, .ref a4, .ref a5, .ref a1, .int 8, .int 0, .int 0, .int 0, .int 0, .long 0, .int 0, .int 0, .int 0, .int (-1), .ref a6, .ref a7, .ref a8, .ref a9, .ref a10, .ref a11, .ref a12, .ref a13, .int 0, .int 0, .ref a14, .ref a15, .int 0, .int 0, .int 0, .ref a16, .ref a17, .int 0, .int 0, .int 0, .int 0, .int 0, .ref a18, .int 0, .int 0, .int 0])), (a1, .inl (cB, 800, .inl f90))] sz)) (va_Qv (fun (_ : (Nat → Int32)) => True) (MB D [(cB, .byte), (cI, .int), (cJ, .long), (cZ, .boolean), (cT, .object RX7), (cR, .object RX3)] [(a0, .inr (10, [.int 0, .ref a2, .ref a3, .ref a4, .ref a5, .ref a1, .int 8, .int 0, .int 0, .int 0, .int 0, .long 0, .int 0, .int 0, .int 0, .int (-1), .ref a6, .ref a7, .ref a8, .ref a9, .ref a10, .ref a11, .ref a12, .ref a13, .int 0, .int 0, .ref a14, .ref a15, .int 0, .int 0, .int 0, .ref a16, .ref a17, .int 0, .int 0, .int 0, .int 0, .int 0, .ref a18, .int 0, .int 0, .int 0])), (a1, .inl (cB, 800, .inl f90))] sz (fun (u : (Nat → Int32)) => [(a0, .inr (10, [.int 0, .ref a2, .ref a3, .ref a4, .ref a5, .ref a1, .int 12, .int 0, .int 0, .int 0, .int 0, .long 0, .int 0, .int 0, .int 0, .int (-1), .ref a6, .ref a7, .ref a8, .ref a9, .ref a10, .ref a11, .ref a12, .ref a13, .int 0, .int 0, .ref a14, .ref a15, .int 0, .int 0, .int 0, .ref a16, .ref a17, .int 0, .int 0, .int 0, .int 0, .int 0, .ref a18, .int 0, .int 0, .int 0])), (a1, .inl (cB, 800, .inl u))])) (va_A [(a0, .inr (10, [.int 0, .ref a2, .ref a3, .ref a4, .ref a5, .ref a1, .int 8, .int 0, .int 0, .int 0, .int 0, .long 0, .int 0, .int 0, .int 0, .int (-1), .ref a6, .ref a7, .ref a8, .ref a9, .ref a10, .ref a11, .ref a12, .ref a13, .int 0, .int 0, .ref a14, .ref a15, .int 0, .int 0, .int 0, .ref a16, .ref a17, .int 0, .int 0, .int 0, .int 0, .int 0, .ref a18, .int 0, .int 0, .int 0])), (a1, .inl (cB, 800, .inl f90))] sz)) 0 0 (va_A [(a0, .inr (10, [.int 0, .ref a2, .ref a3, .ref a4, .ref a5, .ref a1, .int 8, .int 0, .int 0, .int 0, .int 0, .long 0, .int 0, .int 0, .int 0, .int (-1), .ref a6, .ref a7, .ref a8, .ref a9, .ref a10, .ref a11, .ref a12, .ref a13, .int 0, .int 0, .ref a14, .ref a15, .int 0, .int 0, .int 0, .ref a16, .ref a17, .int 0, .int 0, .int 0, .int 0, .int 0, .ref a18, .int 0, .int 0, .int 0])), (a1, .inl (cB, 800, .inl f90))] sz) := by
  refine pm (by decide) (Nat.le_of_ble_eq_true rfl) ?_
  intro p e s m below meth c ls hx hb hr hml hown hlk hnm hts hv hl
  have hown : s.vm.findClass RX10 = some m.cls := hown
  have hl : lv_has ls 3 [(0, .ref a0), (1, .int x0)] := hl
  obtain ⟨hsz, hP, hK, hD0, hE⟩ := hv
  subst hsz
  have hD := hD0.self (sz := s.heap.size)
  obtain ⟨AA, hAe⟩ : ∃ AA, AA = va_A [(a0, .inr (10, [.int 0, .ref a2, .ref a3, .ref a4, .ref a5, .ref a1, .int 8, .int 0, .int 0, .int 0, .int 0, .long 0, .int 0, .int 0, .int 0, .int (-1), .ref a6, .ref a7, .ref a8, .ref a9, .ref a10, .ref a11, .ref a12, .ref a13, .int 0, .int 0, .ref a14, .ref a15, .int 0, .int 0, .int 0, .ref a16, .ref a17, .int 0, .int 0, .int 0, .int 0, .int 0, .ref a18, .int 0, .int 0, .int 0])), (a1, .inl (cB, 800, .inl f90))] s.heap.size := ⟨_, rfl⟩
  rw [← hAe] at hD
  have hA : ∀ q : Nat, s.heap.size ≤ q → AA q := fun q h => by rw [hAe]; exact Or.inr h
  have hS : va_S AA s.heap s.heap [] := va_S.rf
  obtain ⟨-, hAOT, hAOR, hAOI⟩ := id hE
  refine lv_bipush (v := 24) hx hb dX10_four_0 (by decide) ?_
  refine lv_istore_n (lv' := [(2, .int 24), (0, .ref a0), (1, .int x0)]) hx hb dX10_four_2 rfl hl (by decide) rfl (fun ls hl => ?_)
  refine lv_iload_n hx hb dX10_four_3 rfl (lv_at hl 0 rfl) ?_
  refine lv_if_lt (tgt := 36) hx hb dX10_four_4 (by decide) (fun c9 => absurd c9 (by decide)) (fun _ => ?_)
  refine lv_aload_n hx hb dX10_four_7 rfl (lv_at hl 1 rfl) ?_
  refine va_get (D := D) (ci := 10) (v := .ref a1) (C := RX10) (T := TX10) (N := 42) hx hb hts (fun w h => uc_in w (inX10 w h)) hown hK hP 0 rfl rfl 5 (by decide) (hts _ (uc_in _ q_f1193)) (fun _ h9 => h9) rfl dX10_four_8 ?_
  refine lv_aload_n hx hb dX10_four_11 rfl (lv_at hl 1 rfl) ?_
  refine va_get (D := D) (ci := 10) (v := .int 8) (C := RX10) (T := TX10) (N := 42) hx hb hts (fun w h => uc_in w (inX10 w h)) hown hK hP 0 rfl rfl 6 (by decide) (hts _ (uc_in _ q_f1194)) (fun _ h9 => h9) rfl dX10_four_12 ?_
  refine lv_iload_n hx hb dX10_four_15 rfl (lv_at hl 2 rfl) ?_
  refine lv_iload_n hx hb dX10_four_16 rfl (lv_at hl 0 rfl) ?_
  refine lv_ishr hx hb dX10_four_17 ?_
  refine lv_topi (fun z1 ez1 => ?_)
  refine lv_i2b hx hb dX10_four_18 rfl ?_
  refine lv_topi (fun z2 ez2 => ?_)
  refine va_bast hx hb hK hP hD hS 1 0 rfl rfl (vp_in_iff.mpr ⟨by decide, by decide⟩) dX10_four_19 (fun H locs hP hD hS => ?_)
  obtain ⟨f3, ef3⟩ : ∃ f9, f9 = upd f90 8.toNatClampNeg (vp_nar .byte z2) := ⟨_, rfl⟩
  rw [← ef3] at hP hD
  have hP : va_P D vwCl [(a0, .inr (10, [.int 0, .ref a2, .ref a3, .ref a4, .ref a5, .ref a1, .int 8, .int 0, .int 0, .int 0, .int 0, .long 0, .int 0, .int 0, .int 0, .int (-1), .ref a6, .ref a7, .ref a8, .ref a9, .ref a10, .ref a11, .ref a12, .ref a13, .int 0, .int 0, .ref a14, .ref a15, .int 0, .int 0, .int 0, .ref a16, .ref a17, .int 0, .int 0, .int 0, .int 0, .int 0, .ref a18, .int 0, .int 0, .int 0])), (a1, .inl (cB, 800, .inl f3))] H := hP
  have hD : va_D AA [(a0, .inr (10, [.int 0, .ref a2, .ref a3, .ref a4, .ref a5, .ref a1, .int 8, .int 0, .int 0, .int 0, .int 0, .long 0, .int 0, .int 0, .int 0, .int (-1), .ref a6, .ref a7, .ref a8, .ref a9, .ref a10, .ref a11, .ref a12, .ref a13, .int 0, .int 0, .ref a14, .ref a15, .int 0, .int 0, .int 0, .ref a16, .ref a17, .int 0, .int 0, .int 0, .int 0, .int 0, .ref a18, .int 0, .int 0, .int 0])), (a1, .inl (cB, 800, .inl f3))] := hD
  refine lv_aload_n hx hb dX10_four_20 rfl (lv_at hl 1 rfl) ?_
  refine lv_dup hx hb dX10_four_21 rfl ?_
  refine va_get (D := D) (ci := 10) (v := .int 8) (C := RX10) (T := TX10) (N := 42) hx hb hts (fun w h => uc_in w (inX10 w h)) hown hK hP 0 rfl rfl 6 (by decide) (hts _ (uc_in _ q_f1194)) (fun _ h9 => h9) rfl dX10_four_22 ?_
  refine lv_iconst (v := 1) hx hb dX10_four_25 (by decide) ?_
  refine lv_iadd hx hb dX10_four_26 ?_
  refine pv_i (v := 9) (by decide) ?_
  refine va_put (D := D) (ci := 10) (v := .int 9) (ty := .int) (C := RX10) (T := TX10) (N := 42) hx hb hts (fun w h => uc_in w (inX10 w h)) tyX10 tyX10_ok nmX10 hown hK hP hD hS 0 rfl rfl 6 (by decide) (hts _ (uc_in _ q_f1194)) (fun _ h9 => h9) rfl (by decide +kernel) rfl rfl (Nat.le_of_ble_eq_true rfl) dX10_four_27 (fun H locs hP hD hS => ?_)
  have hP : va_P D vwCl [(a0, .inr (10, [.int 0, .ref a2, .ref a3, .ref a4, .ref a5, .ref a1, .int 9, .int 0, .int 0, .int 0, .int 0, .long 0, .int 0, .int 0, .int 0, .int (-1), .ref a6, .ref a7, .ref a8, .ref a9, .ref a10, .ref a11, .ref a12, .ref a13, .int 0, .int 0, .ref a14, .ref a15, .int 0, .int 0, .int 0, .ref a16, .ref a17, .int 0, .int 0, .int 0, .int 0, .int 0, .ref a18, .int 0, .int 0, .int 0])), (a1, .inl (cB, 800, .inl f3))] H := hP
  have hD : va_D AA [(a0, .inr (10, [.int 0, .ref a2, .ref a3, .ref a4, .ref a5, .ref a1, .int 9, .int 0, .int 0, .int 0, .int 0, .long 0, .int 0, .int 0, .int 0, .int (-1), .ref a6, .ref a7, .ref a8, .ref a9, .ref a10, .ref a11, .ref a12, .ref a13, .int 0, .int 0, .ref a14, .ref a15, .int 0, .int 0, .int 0, .ref a16, .ref a17, .int 0, .int 0, .int 0, .int 0, .int 0, .ref a18, .int 0, .int 0, .int 0])), (a1, .inl (cB, 800, .inl f3))] := hD
  refine lv_iinc (v := 16) (lv' := [(2, .int 16), (0, .ref a0), (1, .int x0)]) hx hb dX10_four_30 hl (k := 0) rfl (by decide) (by decide) rfl (fun ls hl => ?_)
  refine lv_goto (tgt := 3) hx hb dX10_four_33 (by decide) ?_
  refine lv_iload_n hx hb dX10_four_3 rfl (lv_at hl 0 rfl) ?_
  refine lv_if_lt (tgt := 36) hx hb dX10_four_4 (by decide) (fun c9 => absurd c9 (by decide)) (fun _ => ?_)
  refine lv_aload_n hx hb dX10_four_7 rfl (lv_at hl 1 rfl) ?_
  refine va_get (D := D) (ci := 10) (v := .ref a1) (C := RX10) (T := TX10) (N := 42) hx hb hts (fun w h => uc_in w (inX10 w h)) hown hK hP 0 rfl rfl 5 (by decide) (hts _ (uc_in _ q_f1193)) (fun _ h9 => h9) rfl dX10_four_8 ?_
  refine lv_aload_n hx hb dX10_four_11 rfl (lv_at hl 1 rfl) ?_
  refine va_get (D := D) (ci := 10) (v := .int 9) (C := RX10) (T := TX10) (N := 42) hx hb hts (fun w h => uc_in w (inX10 w h)) hown hK hP 0 rfl rfl 6 (by decide) (hts _ (uc_in _ q_f1194)) (fun _ h9 => h9) rfl dX10_four_12 ?_
  refine lv_iload_n hx hb dX10_four_15 rfl (lv_at hl 2 rfl) ?_
  refine lv_iload_n hx hb dX10_four_16 rfl (lv_at hl 0 rfl) ?_
  refine lv_ishr hx hb dX10_four_17 ?_
  refine lv_topi (fun z4 ez4 => ?_)
  refine lv_i2b hx hb dX10_four_18 rfl ?_
  refine lv_topi (fun z5 ez5 => ?_)
  refine va_bast hx hb hK hP hD hS 1 0 rfl rfl (vp_in_iff.mpr ⟨by decide, by decide⟩) dX10_four_19 (fun H locs hP hD hS => ?_)
  obtain ⟨f6, ef6⟩ : ∃ f9, f9 = upd f3 9.toNatClampNeg (vp_nar .byte z5) := ⟨_, rfl⟩
  rw [← ef6] at hP hD
  have hP : va_P D vwCl [(a0, .inr (10, [.int 0, .ref a2, .ref a3, .ref a4, .ref a5, .ref a1, .int 9, .int 0, .int 0, .int 0, .int 0, .long 0, .int 0, .int 0, .int 0, .int (-1), .ref a6, .ref a7, .ref a8, .ref a9, .ref a10, .ref a11, .ref a12, .ref a13, .int 0, .int 0, .ref a14, .ref a15, .int 0, .int 0, .int 0, .ref a16, .ref a17, .int 0, .int 0, .int 0, .int 0, .int 0, .ref a18, .int 0, .int 0, .int 0])), (a1, .inl (cB, 800, .inl f6))] H := hP
  have hD : va_D AA [(a0, .inr (10, [.int 0, .ref a2, .ref a3, .ref a4, .ref a5, .ref a1, .int 9, .int 0, .int 0, .int 0, .int 0, .long 0, .int 0, .int 0, .int 0, .int (-1), .ref a6, .ref a7, .ref a8, .ref a9, .ref a10, .ref a11, .ref a12, .ref a13, .int 0, .int 0, .ref a14, .ref a15, .int 0, .int 0, .int 0, .ref a16, .ref a17, .int 0, .int 0, .int 0, .int 0, .int 0, .ref a18, .int 0, .int 0, .int 0])), (a1, .inl (cB, 800, .inl f6))] := hD
  refine lv_aload_n hx hb dX10_four_20 rfl (lv_at hl 1 rfl) ?_
  refine lv_dup hx hb dX10_four_21 rfl ?_
  refine va_get (D := D) (ci := 10) (v := .int 9) (C := RX10) (T := TX10) (N := 42) hx hb hts (fun w h => uc_in w (inX10 w h)) hown hK hP 0 rfl rfl 6 (by decide) (hts _ (uc_in _ q_f1194)) (fun _ h9 => h9) rfl dX10_four_22 ?_
  refine lv_iconst (v := 1) hx hb dX10_four_25 (by decide) ?_
  refine lv_iadd hx hb dX10_four_26 ?_
  refine pv_i (v := 10) (by decide) ?_
  refine va_put (D := D) (ci := 10) (v := .int 10) (ty := .int) (C := RX10) (T := TX10) (N := 42) hx hb hts (fun w h => uc_in w (inX10 w h)) tyX10 tyX10_ok nmX10 hown hK hP hD hS 0 rfl rfl 6 (by decide) (hts _ (uc_in _ q_f1194)) (fun _ h9 => h9) rfl (by decide +kernel) rfl rfl (Nat.le_of_ble_eq_true rfl) dX10_four_27 (fun H locs hP hD hS => ?_)
  have hP : va_P D vwCl [(a0, .inr (10, [.int 0, .ref a2, .ref a3, .ref a4, .ref a5, .ref a1, .int 10, .int 0, .int 0, .int 0, .int 0, .long 0, .int 0, .int 0, .int 0, .int (-1), .ref a6, .ref a7, .ref a8, .ref a9, .ref a10, .ref a11, .ref a12, .ref a13, .int 0, .int 0, .ref a14, .ref a15, .int 0, .int 0, .int 0, .ref a16, .ref a17, .int 0, .int 0, .int 0, .int 0, .int 0, .ref a18, .int 0, .int 0, .int 0])), (a1, .inl (cB, 800, .inl f6))] H := hP
  have hD : va_D AA [(a0, .inr (10, [.int 0, .ref a2, .ref a3, .ref a4, .ref a5, .ref a1, .int 10, .int 0, .int 0, .int 0, .int 0, .long 0, .int 0, .int 0, .int 0, .int (-1), .ref a6, .ref a7, .ref a8, .ref a9, .ref a10, .ref a11, .ref a12, .ref a13, .int 0, .int 0, .ref a14, .ref a15, .int 0, .int 0, .int 0, .ref a16, .ref a17, .int 0, .int 0, .int 0, .int 0, .int 0, .ref a18, .int 0, .int 0, .int 0])), (a1, .inl (cB, 800, .inl f6))] := hD
  refine lv_iinc (v := 8) (lv' := [(2, .int 8), (0, .ref a0), (1, .int x0)]) hx hb dX10_four_30 hl (k := 0) rfl (by decide) (by decide) rfl (fun ls hl => ?_)
  refine lv_goto (tgt := 3) hx hb dX10_four_33 (by decide) ?_
  refine lv_iload_n hx hb dX10_four_3 rfl (lv_at hl 0 rfl) ?_
  refine lv_if_lt (tgt := 36) hx hb dX10_four_4 (by decide) (fun c9 => absurd c9 (by decide)) (fun _ => ?_)
  refine lv_aload_n hx hb dX10_four_7 rfl (lv_at hl 1 rfl) ?_
  refine va_get (D := D) (ci := 10) (v := .ref a1) (C := RX10) (T := TX10) (N := 42) hx hb hts (fun w h => uc_in w (inX10 w h)) hown hK hP 0 rfl rfl 5 (by decide) (hts _ (uc_in _ q_f1193)) (fun _ h9 => h9) rfl dX10_four_8 ?_
  refine lv_aload_n hx hb dX10_four_11 rfl (lv_at hl 1 rfl) ?_
  refine va_get (D := D) (ci := 10) (v := .int 10) (C := RX10) (T := TX10) (N := 42) hx hb hts (fun w h => uc_in w (inX10 w h)) hown hK hP 0 rfl rfl 6 (by decide) (hts _ (uc_in _ q_f1194)) (fun _ h9 => h9) rfl dX10_four_12 ?_
  refine lv_iload_n hx hb dX10_four_15 rfl (lv_at hl 2 rfl) ?_
  refine lv_iload_n hx hb dX10_four_16 rfl (lv_at hl 0 rfl) ?_
  refine lv_ishr hx hb dX10_four_17 ?_
  refine lv_topi (fun z7 ez7 => ?_)
  refine lv_i2b hx hb dX10_four_18 rfl ?_
  refine lv_topi (fun z8 ez8 => ?_)
  refine va_bast hx hb hK hP hD hS 1 0 rfl rfl (vp_in_iff.mpr ⟨by decide, by decide⟩) dX10_four_19 (fun H locs hP hD hS => ?_)
  obtain ⟨f9, ef9⟩ : ∃ f9, f9 = upd f6 10.toNatClampNeg (vp_nar .byte z8) := ⟨_, rfl⟩
  rw [← ef9] at hP hD
  have hP : va_P D vwCl [(a0, .inr (10, [.int 0, .ref a2, .ref a3, .ref a4, .ref a5, .ref a1, .int 10, .int 0, .int 0, .int 0, .int 0, .long 0, .int 0, .int 0, .int 0, .int (-1), .ref a6, .ref a7, .ref a8, .ref a9, .ref a10, .ref a11, .ref a12, .ref a13, .int 0, .int 0, .ref a14, .ref a15, .int 0, .int 0, .int 0, .ref a16, .ref a17, .int 0, .int 0, .int 0, .int 0, .int 0, .ref a18, .int 0, .int 0, .int 0])), (a1, .inl (cB, 800, .inl f9))] H := hP
  have hD : va_D AA [(a0, .inr (10, [.int 0, .ref a2, .ref a3, .ref a4, .ref a5, .ref a1, .int 10, .int 0, .int 0, .int 0, .int 0, .long 0, .int 0, .int 0, .int 0, .int (-1), .ref a6, .ref a7, .ref a8, .ref a9, .ref a10, .ref a11, .ref a12, .ref a13, .int 0, .int 0, .ref a14, .ref a15, .int 0, .int 0, .int 0, .ref a16, .ref a17, .int 0, .int 0, .int 0, .int 0, .int 0, .ref a18, .int 0, .int 0, .int 0])), (a1, .inl (cB, 800, .inl f9))] := hD
  refine lv_aload_n hx hb dX10_four_20 rfl (lv_at hl 1 rfl) ?_
  refine lv_dup hx hb dX10_four_21 rfl ?_
  refine va_get (D := D) (ci := 10) (v := .int 10) (C := RX10) (T := TX10) (N := 42) hx hb hts (fun w h => uc_in w (inX10 w h)) hown hK hP 0 rfl rfl 6 (by decide) (hts _ (uc_in _ q_f1194)) (fun _ h9 => h9) rfl dX10_four_22 ?_
  refine lv_iconst (v := 1) hx hb dX10_four_25 (by decide) ?_
  refine lv_iadd hx hb dX10_four_26 ?_
  refine pv_i (v := 11) (by decide) ?_
  refine va_put (D := D) (ci := 10) (v := .int 11) (ty := .int) (C := RX10) (T := TX10) (N := 42) hx hb hts (fun w h => uc_in w (inX10 w h)) tyX10 tyX10_ok nmX10 hown hK hP hD hS 0 rfl rfl 6 (by decide) (hts _ (uc_in _ q_f1194)) (fun _ h9 => h9) rfl (by decide +kernel) rfl rfl (Nat.le_of_ble_eq_true rfl) dX10_four_27 (fun H locs hP hD hS => ?_)
  have hP : va_P D vwCl [(a0, .inr (10, [.int 0, .ref a2, .ref a3, .ref a4, .ref a5, .ref a1, .int 11, .int 0, .int 0, .int 0, .int 0, .long 0, .int 0, .int 0, .int 0, .int (-1), .ref a6, .ref a7, .ref a8, .ref a9, .ref a10, .ref a11, .ref a12, .ref a13, .int 0, .int 0, .ref a14, .ref a15, .int 0, .int 0, .int 0, .ref a16, .ref a17, .int 0, .int 0, .int 0, .int 0, .int 0, .ref a18, .int 0, .int 0, .int 0])), (a1, .inl (cB, 800, .inl f9))] H := hP
  have hD : va_D AA [(a0, .inr (10, [.int 0, .ref a2, .ref a3, .ref a4, .ref a5, .ref a1, .int 11, .int 0, .int 0, .int 0, .int 0, .long 0, .int 0, .int 0, .int 0, .int (-1), .ref a6, .ref a7, .ref a8, .ref a9, .ref a10, .ref a11, .ref a12, .ref a13, .int 0, .int 0, .ref a14, .ref a15, .int 0, .int 0, .int 0, .ref a16, .ref a17, .int 0, .int 0, .int 0, .int 0, .int 0, .ref a18, .int 0, .int 0, .int 0])), (a1, .inl (cB, 800, .inl f9))] := hD
  refine lv_iinc (v := 0) (lv' := [(2, .int 0), (0, .ref a0), (1, .int x0)]) hx hb dX10_four_30 hl (k := 0) rfl (by decide) (by decide) rfl (fun ls hl => ?_)
  refine lv_goto (tgt := 3) hx hb dX10_four_33 (by decide) ?_
  refine lv_iload_n hx hb dX10_four_3 rfl (lv_at hl 0 rfl) ?_
  refine lv_if_lt (tgt := 36) hx hb dX10_four_4 (by decide) (fun c9 => absurd c9 (by decide)) (fun _ => ?_)
  refine lv_aload_n hx hb dX10_four_7 rfl (lv_at hl 1 rfl) ?_
  refine va_get (D := D) (ci := 10) (v := .ref a1) (C := RX10) (T := TX10) (N := 42) hx hb hts (fun w h => uc_in w (inX10 w h)) hown hK hP 0 rfl rfl 5 (by decide) (hts _ (uc_in _ q_f1193)) (fun _ h9 => h9) rfl dX10_four_8 ?_
  refine lv_aload_n hx hb dX10_four_11 rfl (lv_at hl 1 rfl) ?_
  refine va_get (D := D) (ci := 10) (v := .int 11) (C := RX10) (T := TX10) (N := 42) hx hb hts (fun w h => uc_in w (inX10 w h)) hown hK hP 0 rfl rfl 6 (by decide) (hts _ (uc_in _ q_f1194)) (fun _ h9 => h9) rfl dX10_four_12 ?_
  refine lv_iload_n hx hb dX10_four_15 rfl (lv_at hl 2 rfl) ?_
  refine lv_iload_n hx hb dX10_four_16 rfl (lv_at hl 0 rfl) ?_
  refine lv_ishr hx hb dX10_four_17 ?_
  refine lv_topi (fun z10 ez10 => ?_)
  refine lv_i2b hx hb dX10_four_18 rfl ?_
  refine lv_topi (fun z11 ez11 => ?_)
  refine va_bast hx hb hK hP hD hS 1 0 rfl rfl (vp_in_iff.mpr ⟨by decide, by decide⟩) dX10_four_19 (fun H locs hP hD hS => ?_)
  obtain ⟨f12, ef12⟩ : ∃ f9, f9 = upd f9 11.toNatClampNeg (vp_nar .byte z11) := ⟨_, rfl⟩
  rw [← ef12] at hP hD
  have hP : va_P D vwCl [(a0, .inr (10, [.int 0, .ref a2, .ref a3, .ref a4, .ref a5, .ref a1, .int 11, .int 0, .int 0, .int 0, .int 0, .long 0, .int 0, .int 0, .int 0, .int (-1), .ref a6, .ref a7, .ref a8, .ref a9, .ref a10, .ref a11, .ref a12, .ref a13, .int 0, .int 0, .ref a14, .ref a15, .int 0, .int 0, .int 0, .ref a16, .ref a17, .int 0, .int 0, .int 0, .int 0, .int 0, .ref a18, .int 0, .int 0, .int 0])), (a1, .inl (cB, 800, .inl f12))] H := hP
  have hD : va_D AA [(a0, .inr (10, [.int 0, .ref a2, .ref a3, .ref a4, .ref a5, .ref a1, .int 11, .int 0, .int 0, .int 0, .int 0, .long 0, .int 0, .int 0, .int 0, .int (-1), .ref a6, .ref a7, .ref a8, .ref a9, .ref a10, .ref a11, .ref a12, .ref a13, .int 0, .int 0, .ref a14, .ref a15, .int 0, .int 0, .int 0, .ref a16, .ref a17, .int 0, .int 0, .int 0, .int 0, .int 0, .ref a18, .int 0, .int 0, .int 0])), (a1, .inl (cB, 800, .inl f12))] := hD
  refine lv_aload_n hx hb dX10_four_20 rfl (lv_at hl 1 rfl) ?_
  refine lv_dup hx hb dX10_four_21 rfl ?_
  refine va_get (D := D) (ci := 10) (v := .int 11) (C := RX10) (T := TX10) (N := 42) hx hb hts (fun w h => uc_in w (inX10 w h)) hown hK hP 0 rfl rfl 6 (by decide) (hts _ (uc_in _ q_f1194)) (fun _ h9 => h9) rfl dX10_four_22 ?_
  refine lv_iconst (v := 1) hx hb dX10_four_25 (by decide) ?_
  refine lv_iadd hx hb dX10_four_26 ?_
  refine pv_i (v := 12) (by decide) ?_
  refine va_put (D := D) (ci := 10) (v := .int 12) (ty := .int) (C := RX10) (T := TX10) (N := 42) hx hb hts (fun w h => uc_in w (inX10 w h)) tyX10 tyX10_ok nmX10 hown hK hP hD hS 0 rfl rfl 6 (by decide) (hts _ (uc_in _ q_f1194)) (fun _ h9 => h9) rfl (by decide +kernel) rfl rfl (Nat.le_of_ble_eq_true rfl) dX10_four_27 (fun H locs hP hD hS => ?_)
  have hP : va_P D vwCl [(a0, .inr (10, [.int 0, .ref a2, .ref a3, .ref a4, .ref a5, .ref a1, .int 12, .int 0, .int 0, .int 0, .int 0, .long 0, .int 0, .int 0, .int 0, .int (-1), .ref a6, .ref a7, .ref a8, .ref a9, .ref a10, .ref a11, .ref a12, .ref a13, .int 0, .int 0, .ref a14, .ref a15, .int 0, .int 0, .int 0, .ref a16, .ref a17, .int 0, .int 0, .int 0, .int 0, .int 0, .ref a18, .int 0, .int 0, .int 0])), (a1, .inl (cB, 800, .inl f12))] H := hP
  have hD : va_D AA [(a0, .inr (10, [.int 0, .ref a2, .ref a3, .ref a4, .ref a5, .ref a1, .int 12, .int 0, .int 0, .int 0, .int 0, .long 0, .int 0, .int 0, .int 0, .int (-1), .ref a6, .ref a7, .ref a8, .ref a9, .ref a10, .ref a11, .ref a12, .ref a13, .int 0, .int 0, .ref a14, .ref a15, .int 0, .int 0, .int 0, .ref a16, .ref a17, .int 0, .int 0, .int 0, .int 0, .int 0, .ref a18, .int 0, .int 0, .int 0])), (a1, .inl (cB, 800, .inl f12))] := hD
  refine lv_iinc (v := (-8)) (lv' := [(2, .int (-8)), (0, .ref a0), (1, .int x0)]) hx hb dX10_four_30 hl (k := 0) rfl (by decide) (by decide) rfl (fun ls hl => ?_)
  refine lv_goto (tgt := 3) hx hb dX10_four_33 (by decide) ?_
  refine lv_iload_n hx hb dX10_four_3 rfl (lv_at hl 0 rfl) ?_
  refine lv_if_lt (tgt := 36) hx hb dX10_four_4 (by decide) (fun _ => ?_) (fun c9 => absurd (by decide) c9)
  subst hAe
  have hP9 := hP.sub (ws' := [(a0, .inr (10, [.int 0, .ref a2, .ref a3, .ref a4, .ref a5, .ref a1, .int 12, .int 0, .int 0, .int 0, .int 0, .long 0, .int 0, .int 0, .int 0, .int (-1), .ref a6, .ref a7, .ref a8, .ref a9, .ref a10, .ref a11, .ref a12, .ref a13, .int 0, .int 0, .ref a14, .ref a15, .int 0, .int 0, .int 0, .ref a16, .ref a17, .int 0, .int 0, .int 0, .int 0, .int 0, .ref a18, .int 0, .int 0, .int 0])), (a1, .inl (cB, 800, .inl f12))]) [0, 1] rfl
  have hD9 := hD.sub (ws' := [(a0, .inr (10, [.int 0, .ref a2, .ref a3, .ref a4, .ref a5, .ref a1, .int 12, .int 0, .int 0, .int 0, .int 0, .long 0, .int 0, .int 0, .int 0, .int (-1), .ref a6, .ref a7, .ref a8, .ref a9, .ref a10, .ref a11, .ref a12, .ref a13, .int 0, .int 0, .ref a14, .ref a15, .int 0, .int 0, .int 0, .ref a16, .ref a17, .int 0, .int 0, .int 0, .int 0, .int 0, .ref a18, .int 0, .int 0, .int 0])), (a1, .inl (cB, 800, .inl f12))]) [0, 1] rfl rfl
  exact W.vret hx hb hr (fun t ht hW => ⟨⟨f12, rfl, trivial, by rw [ht]; exact hP9, va_K.moved hW.alike hK, hD9⟩, hS.F ht⟩) hS.2.2 dX10_four_36
set_option maxHeartbeats 4000000 in
set_option maxRecDepth 100000 in
theorem kX10_four_3 (l : Launch) (D : va_G) (cB cI cJ cZ cT cR : ClassId) (a0 a1 a2 a3 a4 a5 a6 a7 a8 a9 a10 a11 a12 a13 a14 a15 a16 a17 a18 : Nat) (x0 : Int32) (f90 : Nat → Int32) (sz : Nat) : Met l yX10_four (uc yX10_four cX10_four 3 none) (rmL 1 0 0) (va_Pc [.ref a0, .int x0] (MPre D [(cB, .byte), (cI, .int), (cJ, .long), (cZ, .boolean), (cT, .object RX7), (cR, .object RX3)] [(a0, .inr (10, [.int 0, .ref a2, .ref a3, .ref a4, .ref a5, .ref a1, .int 12, .int 0, .int 0, .int 0, .int 0, .long 0, .int 0, .int 0, .int 0, .int (-1), .ref a6, .ref a7, .ref a8, .ref a9, .ref a10, .ref a11, .ref a12, .ref a13, .int 0, .int 0, .ref a14, .ref a15, .int 0, .int 0, .int 0, .ref a16, .ref a17, .int 0, .int 0, .int 0, .int 0, .int 0, .ref a18, .int 0, .int 0, .int 0])), (a1, .inl (cB, 800, .inl f90))] sz)) (va_Qv (fun (_ : (Nat → Int32)) => True) (MB D [(cB, .byte), (cI, .int), (cJ, .long), (cZ, .boolean), (cT, .object RX7), (cR, .object RX3)] [(a0, .inr (10, [.int 0, .ref a2, .ref a3, .ref a4, .ref a5, .ref a1, .int 12, .int 0, .int 0, .int 0, .int 0, .long 0, .int 0, .int 0, .int 0, .int (-1), .ref a6, .ref a7, .ref a8, .ref a9, .ref a10, .ref a11, .ref a12, .ref a13, .int 0, .int 0, .ref a14, .ref a15, .int 0, .int 0, .int 0, .ref a16, .ref a17, .int 0, .int 0, .int 0, .int 0, .int 0, .ref a18, .int 0, .int 0, .int 0])), (a1, .inl (cB, 800, .inl f90))] sz (fun (u : (Nat → Int32)) => [(a0, .inr (10, [.int 0, .ref a2, .ref a3, .ref a4, .ref a5, .ref a1, .int 16, .int 0, .int 0, .int 0, .int 0, .long 0, .int 0, .int 0, .int 0, .int (-1), .ref a6, .ref a7, .ref a8, .ref a9, .ref a10, .ref a11, .ref a12, .ref a13, .int 0, .int 0, .ref a14, .ref a15, .int 0, .int 0, .int 0, .ref a16, .ref a17, .int 0, .int 0, .int 0, .int 0, .int 0, .ref a18, .int 0, .int 0, .int 0])), (a1, .inl (cB, 800, .inl u))])) (va_A [(a0, .inr (10, [.int 0, .ref a2, .ref a3, .ref a4, .ref a5, .ref a1, .int 12, .int 0, .int 0, .int 0, .int 0, .long 0, .int 0, .int 0, .int 0, .int (-1), .ref a6, .ref a7, .ref a8, .ref a9, .ref a10, .ref a11, .ref a12, .ref a13, .int 0, .int 0, .ref a14, .ref a15, .int 0, .int 0, .int 0, .ref a16, .ref a17, .int 0, .int 0, .int 0, .int 0, .int 0, .ref a18, .int 0, .int 0, .int 0])), (a1, .inl (cB, 800, .inl f90))] sz)) 0 0 (va_A [(a0, .inr (10, [.int 0, .ref a2, .ref a3, .ref a4, .ref a5, .ref a1, .int 12, .int 0, .int 0, .int 0, .int 0, .long 0, .int 0, .int 0, .int 0, .int (-1), .ref a6, .ref a7, .ref a8, .ref a9, .ref a10, .ref a11, .ref a12, .ref a13, .int 0, .int 0, .ref a14, .ref a15, .int 0, .int 0, .int 0, .ref a16, .ref a17, .int 0, .int 0, .int 0, .int 0, .int 0, .ref a18, .int 0, .int 0, .int 0])), (a1, .inl (cB, 800, .inl f90))] sz) := by
  refine pm (by decide) (Nat.le_of_ble_eq_true rfl) ?_
  intro p e s m below meth c ls hx hb hr hml hown hlk hnm hts hv hl
  have hown : s.vm.findClass RX10 = some m.cls := hown
  have hl : lv_has ls 3 [(0, .ref a0), (1, .int x0)] := hl
  obtain ⟨hsz, hP, hK, hD0, hE⟩ := hv
  subst hsz
  have hD := hD0.self (sz := s.heap.size)
  obtain ⟨AA, hAe⟩ : ∃ AA, AA = va_A [(a0, .inr (10, [.int 0, .ref a2, .ref a3, .ref a4, .ref a5, .ref a1, .int 12, .int 0, .int 0, .int 0, .int 0, .long 0, .int 0, .int 0, .int 0, .int (-1), .ref a6, .ref a7, .ref a8, .ref a9, .ref a10, .ref a11, .ref a12, .ref a13, .int 0, .int 0, .ref a14, .ref a15, .int 0, .int 0, .int 0, .ref a16, .ref a17, .int 0, .int 0, .int 0, .int 0, .int 0, .ref a18, .int 0, .int 0, .int 0])), (a1, .inl (cB, 800, .inl f90))] s.heap.size := ⟨_, rfl⟩
  rw [← hAe] at hD
  have hA : ∀ q : Nat, s.heap.size ≤ q → AA q := fun q h => by rw [hAe]; exact Or.inr h
  have hS : va_S AA s.heap s.heap [] := va_S.rf
  obtain ⟨-, hAOT, hAOR, hAOI⟩ := id hE
  refine lv_bipush (v := 24) hx hb dX10_four_0 (by decide) ?_
  refine lv_istore_n (lv' := [(2, .int 24), (0, .ref a0), (1, .int x0)]) hx hb dX10_four_2 rfl hl (by decide) rfl (fun ls hl => ?_)
  refine lv_iload_n hx hb dX10_four_3 rfl (lv_at hl 0 rfl) ?_
  refine lv_if_lt (tgt := 36) hx hb dX10_four_4 (by decide) (fun c9 => absurd c9 (by decide)) (fun _ => ?_)
  refine lv_aload_n hx hb dX10_four_7 rfl (lv_at hl 1 rfl) ?_
  refine va_get (D := D) (ci := 10) (v := .ref a1) (C := RX10) (T := TX10) (N := 42) hx hb hts (fun w h => uc_in w (inX10 w h)) hown hK hP 0 rfl rfl 5 (by decide) (hts _ (uc_in _ q_f1193)) (fun _ h9 => h9) rfl dX10_four_8 ?_
  refine lv_aload_n hx hb dX10_four_11 rfl (lv_at hl 1 rfl) ?_
  refine va_get (D := D) (ci := 10) (v := .int 12) (C := RX10) (T := TX10) (N := 42) hx hb hts (fun w h => uc_in w (inX10 w h)) hown hK hP 0 rfl rfl 6 (by decide) (hts _ (uc_in _ q_f1194)) (fun _ h9 => h9) rfl dX10_four_12 ?_
  refine lv_iload_n hx hb dX10_four_15 rfl (lv_at hl 2 rfl) ?_
  refine lv_iload_n hx hb dX10_four_16 rfl (lv_at hl 0 rfl) ?_
  refine lv_ishr hx hb dX10_four_17 ?_
  refine lv_topi (fun z1 ez1 => ?_)
  refine lv_i2b hx hb dX10_four_18 rfl ?_
  refine lv_topi (fun z2 ez2 => ?_)
  refine va_bast hx hb hK hP hD hS 1 0 rfl rfl (vp_in_iff.mpr ⟨by decide, by decide⟩) dX10_four_19 (fun H locs hP hD hS => ?_)
  obtain ⟨f3, ef3⟩ : ∃ f9, f9 = upd f90 12.toNatClampNeg (vp_nar .byte z2) := ⟨_, rfl⟩
  rw [← ef3] at hP hD
  have hP : va_P D vwCl [(a0, .inr (10, [.int 0, .ref a2, .ref a3, .ref a4, .ref a5, .ref a1, .int 12, .int 0, .int 0, .int 0, .int 0, .long 0, .int 0, .int 0, .int 0, .int (-1), .ref a6, .ref a7, .ref a8, .ref a9, .ref a10, .ref a11, .ref a12, .ref a13, .int 0, .int 0, .ref a14, .ref a15, .int 0, .int 0, .int 0, .ref a16, .ref a17, .int 0, .int 0, .int 0, .int 0, .int 0, .ref a18, .int 0, .int 0, .int 0])), (a1, .inl (cB, 800, .inl f3))] H := hP
  have hD : va_D AA [(a0, .inr (10, [.int 0, .ref a2, .ref a3, .ref a4, .ref a5, .ref a1, .int 12, .int 0, .int 0, .int 0, .int 0, .long 0, .int 0, .int 0, .int 0, .int (-1), .ref a6, .ref a7, .ref a8, .ref a9, .ref a10, .ref a11, .ref a12, .ref a13, .int 0, .int 0, .ref a14, .ref a15, .int 0, .int 0, .int 0, .ref a16, .ref a17, .int 0, .int 0, .int 0, .int 0, .int 0, .ref a18, .int 0, .int 0, .int 0])), (a1, .inl (cB, 800, .inl f3))] := hD
  refine lv_aload_n hx hb dX10_four_20 rfl (lv_at hl 1 rfl) ?_
  refine lv_dup hx hb dX10_four_21 rfl ?_
  refine va_get (D := D) (ci := 10) (v := .int 12) (C := RX10) (T := TX10) (N := 42) hx hb hts (fun w h => uc_in w (inX10 w h)) hown hK hP 0 rfl rfl 6 (by decide) (hts _ (uc_in _ q_f1194)) (fun _ h9 => h9) rfl dX10_four_22 ?_
  refine lv_iconst (v := 1) hx hb dX10_four_25 (by decide) ?_
  refine lv_iadd hx hb dX10_four_26 ?_
  refine pv_i (v := 13) (by decide) ?_
  refine va_put (D := D) (ci := 10) (v := .int 13) (ty := .int) (C := RX10) (T := TX10) (N := 42) hx hb hts (fun w h => uc_in w (inX10 w h)) tyX10 tyX10_ok nmX10 hown hK hP hD hS 0 rfl rfl 6 (by decide) (hts _ (uc_in _ q_f1194)) (fun _ h9 => h9) rfl (by decide +kernel) rfl rfl (Nat.le_of_ble_eq_true rfl) dX10_four_27 (fun H locs hP hD hS => ?_)
  have hP : va_P D vwCl [(a0, .inr (10, [.int 0, .ref a2, .ref a3, .ref a4, .ref a5, .ref a1, .int 13, .int 0, .int 0, .int 0, .int 0, .long 0, .int 0, .int 0, .int 0, .int (-1), .ref a6, .ref a7, .ref a8, .ref a9, .ref a10, .ref a11, .ref a12, .ref a13, .int 0, .int 0, .ref a14, .ref a15, .int 0, .int 0, .int 0, .ref a16, .ref a17, .int 0, .int 0, .int 0, .int 0, .int 0, .ref a18, .int 0, .int 0, .int 0])), (a1, .inl (cB, 800, .inl f3))] H := hP
  have hD : va_D AA [(a0, .inr (10, [.int 0, .ref a2, .ref a3, .ref a4, .ref a5, .ref a1, .int 13, .int 0, .int 0, .int 0, .int 0, .long 0, .int 0, .int 0, .int 0, .int (-1), .ref a6, .ref a7, .ref a8, .ref a9, .ref a10, .ref a11, .ref a12, .ref a13, .int 0, .int 0, .ref a14, .ref a15, .int 0, .int 0, .int 0, .ref a16, .ref a17, .int 0, .int 0, .int 0, .int 0, .int 0, .ref a18, .int 0, .int 0, .int 0])), (a1, .inl (cB, 800, .inl f3))] := hD
  refine lv_iinc (v := 16) (lv' := [(2, .int 16), (0, .ref a0), (1, .int x0)]) hx hb dX10_four_30 hl (k := 0) rfl (by decide) (by decide) rfl (fun ls hl => ?_)
  refine lv_goto (tgt := 3) hx hb dX10_four_33 (by decide) ?_
  refine lv_iload_n hx hb dX10_four_3 rfl (lv_at hl 0 rfl) ?_
  refine lv_if_lt (tgt := 36) hx hb dX10_four_4 (by decide) (fun c9 => absurd c9 (by decide)) (fun _ => ?_)
  refine lv_aload_n hx hb dX10_four_7 rfl (lv_at hl 1 rfl) ?_
  refine va_get (D := D) (ci := 10) (v := .ref a1) (C := RX10) (T := TX10) (N := 42) hx hb hts (fun w h => uc_in w (inX10 w h)) hown hK hP 0 rfl rfl 5 (by decide) (hts _ (uc_in _ q_f1193)) (fun _ h9 => h9) rfl dX10_four_8 ?_
  refine lv_aload_n hx hb dX10_four_11 rfl (lv_at hl 1 rfl) ?_
  refine va_get (D := D) (ci := 10) (v := .int 13) (C := RX10) (T := TX10) (N := 42) hx hb hts (fun w h => uc_in w (inX10 w h)) hown hK hP 0 rfl rfl 6 (by decide) (hts _ (uc_in _ q_f1194)) (fun _ h9 => h9) rfl dX10_four_12 ?_
  refine lv_iload_n hx hb dX10_four_15 rfl (lv_at hl 2 rfl) ?_
  refine lv_iload_n hx hb dX10_four_16 rfl (lv_at hl 0 rfl) ?_
  refine lv_ishr hx hb dX10_four_17 ?_
  refine lv_topi (fun z4 ez4 => ?_)
  refine lv_i2b hx hb dX10_four_18 rfl ?_
  refine lv_topi (fun z5 ez5 => ?_)
  refine va_bast hx hb hK hP hD hS 1 0 rfl rfl (vp_in_iff.mpr ⟨by decide, by decide⟩) dX10_four_19 (fun H locs hP hD hS => ?_)
  obtain ⟨f6, ef6⟩ : ∃ f9, f9 = upd f3 13.toNatClampNeg (vp_nar .byte z5) := ⟨_, rfl⟩
  rw [← ef6] at hP hD
  have hP : va_P D vwCl [(a0, .inr (10, [.int 0, .ref a2, .ref a3, .ref a4, .ref a5, .ref a1, .int 13, .int 0, .int 0, .int 0, .int 0, .long 0, .int 0, .int 0, .int 0, .int (-1), .ref a6, .ref a7, .ref a8, .ref a9, .ref a10, .ref a11, .ref a12, .ref a13, .int 0, .int 0, .ref a14, .ref a15, .int 0, .int 0, .int 0, .ref a16, .ref a17, .int 0, .int 0, .int 0, .int 0, .int 0, .ref a18, .int 0, .int 0, .int 0])), (a1, .inl (cB, 800, .inl f6))] H := hP
  have hD : va_D AA [(a0, .inr (10, [.int 0, .ref a2, .ref a3, .ref a4, .ref a5, .ref a1, .int 13, .int 0, .int 0, .int 0, .int 0, .long 0, .int 0, .int 0, .int 0, .int (-1), .ref a6, .ref a7, .ref a8, .ref a9, .ref a10, .ref a11, .ref a12, .ref a13, .int 0, .int 0, .ref a14, .ref a15, .int 0, .int 0, .int 0, .ref a16, .ref a17, .int 0, .int 0, .int 0, .int 0, .int 0, .ref a18, .int 0, .int 0, .int 0])), (a1, .inl (cB, 800, .inl f6))] := hD
  refine lv_aload_n hx hb dX10_four_20 rfl (lv_at hl 1 rfl) ?_
  refine lv_dup hx hb dX10_four_21 rfl ?_
  refine va_get (D := D) (ci := 10) (v := .int 13) (C := RX10) (T := TX10) (N := 42) hx hb hts (fun w h => uc_in w (inX10 w h)) hown hK hP 0 rfl rfl 6 (by decide) (hts _ (uc_in _ q_f1194)) (fun _ h9 => h9) rfl dX10_four_22 ?_
  refine lv_iconst (v := 1) hx hb dX10_four_25 (by decide) ?_
  refine lv_iadd hx hb dX10_four_26 ?_
  refine pv_i (v := 14) (by decide) ?_
  refine va_put (D := D) (ci := 10) (v := .int 14) (ty := .int) (C := RX10) (T := TX10) (N := 42) hx hb hts (fun w h => uc_in w (inX10 w h)) tyX10 tyX10_ok nmX10 hown hK hP hD hS 0 rfl rfl 6 (by decide) (hts _ (uc_in _ q_f1194)) (fun _ h9 => h9) rfl (by decide +kernel) rfl rfl (Nat.le_of_ble_eq_true rfl) dX10_four_27 (fun H locs hP hD hS => ?_)
  have hP : va_P D vwCl [(a0, .inr (10, [.int 0, .ref a2, .ref a3, .ref a4, .ref a5, .ref a1, .int 14, .int 0, .int 0, .int 0, .int 0, .long 0, .int 0, .int 0, .int 0, .int (-1), .ref a6, .ref a7, .ref a8, .ref a9, .ref a10, .ref a11, .ref a12, .ref a13, .int 0, .int 0, .ref a14, .ref a15, .int 0, .int 0, .int 0, .ref a16, .ref a17, .int 0, .int 0, .int 0, .int 0, .int 0, .ref a18, .int 0, .int 0, .int 0])), (a1, .inl (cB, 800, .inl f6))] H := hP
  have hD : va_D AA [(a0, .inr (10, [.int 0, .ref a2, .ref a3, .ref a4, .ref a5, .ref a1, .int 14, .int 0, .int 0, .int 0, .int 0, .long 0, .int 0, .int 0, .int 0, .int (-1), .ref a6, .ref a7, .ref a8, .ref a9, .ref a10, .ref a11, .ref a12, .ref a13, .int 0, .int 0, .ref a14, .ref a15, .int 0, .int 0, .int 0, .ref a16, .ref a17, .int 0, .int 0, .int 0, .int 0, .int 0, .ref a18, .int 0, .int 0, .int 0])), (a1, .inl (cB, 800, .inl f6))] := hD
  refine lv_iinc (v := 8) (lv' := [(2, .int 8), (0, .ref a0), (1, .int x0)]) hx hb dX10_four_30 hl (k := 0) rfl (by decide) (by decide) rfl (fun ls hl => ?_)
  refine lv_goto (tgt := 3) hx hb dX10_four_33 (by decide) ?_
  refine lv_iload_n hx hb dX10_four_3 rfl (lv_at hl 0 rfl) ?_
  refine lv_if_lt (tgt := 36) hx hb dX10_four_4 (by decide) (fun c9 => absurd c9 (by decide)) (fun _ => ?_)
  refine lv_aload_n hx hb dX10_four_7 rfl (lv_at hl 1 rfl) ?_
  refine va_get (D := D) (ci := 10) (v := .ref a1) (C := RX10) (T := TX10) (N := 42) hx hb hts (fun w h => uc_in w (inX10 w h)) hown hK hP 0 rfl rfl 5 (by decide) (hts _ (uc_in _ q_f1193)) (fun _ h9 => h9) rfl dX10_four_8 ?_
  refine lv_aload_n hx hb dX10_four_11 rfl (lv_at hl 1 rfl) ?_
  refine va_get (D := D) (ci := 10) (v := .int 14) (C := RX10) (T := TX10) (N := 42) hx hb hts (fun w h => uc_in w (inX10 w h)) hown hK hP 0 rfl rfl 6 (by decide) (hts _ (uc_in _ q_f1194)) (fun _ h9 => h9) rfl dX10_four_12 ?_
  refine lv_iload_n hx hb dX10_four_15 rfl (lv_at hl 2 rfl) ?_
  refine lv_iload_n hx hb dX10_four_16 rfl (lv_at hl 0 rfl) ?_
  refine lv_ishr hx hb dX10_four_17 ?_
  refine lv_topi (fun z7 ez7 => ?_)
  refine lv_i2b hx hb dX10_four_18 rfl ?_
  refine lv_topi (fun z8 ez8 => ?_)
  refine va_bast hx hb hK hP hD hS 1 0 rfl rfl (vp_in_iff.mpr ⟨by decide, by decide⟩) dX10_four_19 (fun H locs hP hD hS => ?_)
  obtain ⟨f9, ef9⟩ : ∃ f9, f9 = upd f6 14.toNatClampNeg (vp_nar .byte z8) := ⟨_, rfl⟩
  rw [← ef9] at hP hD
  have hP : va_P D vwCl [(a0, .inr (10, [.int 0, .ref a2, .ref a3, .ref a4, .ref a5, .ref a1, .int 14, .int 0, .int 0, .int 0, .int 0, .long 0, .int 0, .int 0, .int 0, .int (-1), .ref a6, .ref a7, .ref a8, .ref a9, .ref a10, .ref a11, .ref a12, .ref a13, .int 0, .int 0, .ref a14, .ref a15, .int 0, .int 0, .int 0, .ref a16, .ref a17, .int 0, .int 0, .int 0, .int 0, .int 0, .ref a18, .int 0, .int 0, .int 0])), (a1, .inl (cB, 800, .inl f9))] H := hP
  have hD : va_D AA [(a0, .inr (10, [.int 0, .ref a2, .ref a3, .ref a4, .ref a5, .ref a1, .int 14, .int 0, .int 0, .int 0, .int 0, .long 0, .int 0, .int 0, .int 0, .int (-1), .ref a6, .ref a7, .ref a8, .ref a9, .ref a10, .ref a11, .ref a12, .ref a13, .int 0, .int 0, .ref a14, .ref a15, .int 0, .int 0, .int 0, .ref a16, .ref a17, .int 0, .int 0, .int 0, .int 0, .int 0, .ref a18, .int 0, .int 0, .int 0])), (a1, .inl (cB, 800, .inl f9))] := hD
  refine lv_aload_n hx hb dX10_four_20 rfl (lv_at hl 1 rfl) ?_
  refine lv_dup hx hb dX10_four_21 rfl ?_
  refine va_get (D := D) (ci := 10) (v := .int 14) (C := RX10) (T := TX10) (N := 42) hx hb hts (fun w h => uc_in w (inX10 w h)) hown hK hP 0 rfl rfl 6 (by decide) (hts _ (uc_in _ q_f1194)) (fun _ h9 => h9) rfl dX10_four_22 ?_
  refine lv_iconst (v := 1) hx hb dX10_four_25 (by decide) ?_
  refine lv_iadd hx hb dX10_four_26 ?_
  refine pv_i (v := 15) (by decide) ?_
  refine va_put (D := D) (ci := 10) (v := .int 15) (ty := .int) (C := RX10) (T := TX10) (N := 42) hx hb hts (fun w h => uc_in w (inX10 w h)) tyX10 tyX10_ok nmX10 hown hK hP hD hS 0 rfl rfl 6 (by decide) (hts _ (uc_in _ q_f1194)) (fun _ h9 => h9) rfl (by decide +kernel) rfl rfl (Nat.le_of_ble_eq_true rfl) dX10_four_27 (fun H locs hP hD hS => ?_)
  have hP : va_P D vwCl [(a0, .inr (10, [.int 0, .ref a2, .ref a3, .ref a4, .ref a5, .ref a1, .int 15, .int 0, .int 0, .int 0, .int 0, .long 0, .int 0, .int 0, .int 0, .int (-1), .ref a6, .ref a7, .ref a8, .ref a9, .ref a10, .ref a11, .ref a12, .ref a13, .int 0, .int 0, .ref a14, .ref a15, .int 0, .int 0, .int 0, .ref a16, .ref a17, .int 0, .int 0, .int 0, .int 0, .int 0, .ref a18, .int 0, .int 0, .int 0])), (a1, .inl (cB, 800, .inl f9))] H := hP
  have hD : va_D AA [(a0, .inr (10, [.int 0, .ref a2, .ref a3, .ref a4, .ref a5, .ref a1, .int 15, .int 0, .int 0, .int 0, .int 0, .long 0, .int 0, .int 0, .int 0, .int (-1), .ref a6, .ref a7, .ref a8, .ref a9, .ref a10, .ref a11, .ref a12, .ref a13, .int 0, .int 0, .ref a14, .ref a15, .int 0, .int 0, .int 0, .ref a16, .ref a17, .int 0, .int 0, .int 0, .int 0, .int 0, .ref a18, .int 0, .int 0, .int 0])), (a1, .inl (cB, 800, .inl f9))] := hD
  refine lv_iinc (v := 0) (lv' := [(2, .int 0), (0, .ref a0), (1, .int x0)]) hx hb dX10_four_30 hl (k := 0) rfl (by decide) (by decide) rfl (fun ls hl => ?_)
  refine lv_goto (tgt := 3) hx hb dX10_four_33 (by decide) ?_
  refine lv_iload_n hx hb dX10_four_3 rfl (lv_at hl 0 rfl) ?_
  refine lv_if_lt (tgt := 36) hx hb dX10_four_4 (by decide) (fun c9 => absurd c9 (by decide)) (fun _ => ?_)
  refine lv_aload_n hx hb dX10_four_7 rfl (lv_at hl 1 rfl) ?_
  refine va_get (D := D) (ci := 10) (v := .ref a1) (C := RX10) (T := TX10) (N := 42) hx hb hts (fun w h => uc_in w (inX10 w h)) hown hK hP 0 rfl rfl 5 (by decide) (hts _ (uc_in _ q_f1193)) (fun _ h9 => h9) rfl dX10_four_8 ?_
  refine lv_aload_n hx hb dX10_four_11 rfl (lv_at hl 1 rfl) ?_
  refine va_get (D := D) (ci := 10) (v := .int 15) (C := RX10) (T := TX10) (N := 42) hx hb hts (fun w h => uc_in w (inX10 w h)) hown hK hP 0 rfl rfl 6 (by decide) (hts _ (uc_in _ q_f1194)) (fun _ h9 => h9) rfl dX10_four_12 ?_
  refine lv_iload_n hx hb dX10_four_15 rfl (lv_at hl 2 rfl) ?_
  refine lv_iload_n hx hb dX10_four_16 rfl (lv_at hl 0 rfl) ?_
  refine lv_ishr hx hb dX10_four_17 ?_
  refine lv_topi (fun z10 ez10 => ?_)
  refine lv_i2b hx hb dX10_four_18 rfl ?_
  refine lv_topi (fun z11 ez11 => ?_)
  refine va_bast hx hb hK hP hD hS 1 0 rfl rfl (vp_in_iff.mpr ⟨by decide, by decide⟩) dX10_four_19 (fun H locs hP hD hS => ?_)
  obtain ⟨f12, ef12⟩ : ∃ f9, f9 = upd f9 15.toNatClampNeg (vp_nar .byte z11) := ⟨_, rfl⟩
  rw [← ef12] at hP hD
  have hP : va_P D vwCl [(a0, .inr (10, [.int 0, .ref a2, .ref a3, .ref a4, .ref a5, .ref a1, .int 15, .int 0, .int 0, .int 0, .int 0, .long 0, .int 0, .int 0, .int 0, .int (-1), .ref a6, .ref a7, .ref a8, .ref a9, .ref a10, .ref a11, .ref a12, .ref a13, .int 0, .int 0, .ref a14, .ref a15, .int 0, .int 0, .int 0, .ref a16, .ref a17, .int 0, .int 0, .int 0, .int 0, .int 0, .ref a18, .int 0, .int 0, .int 0])), (a1, .inl (cB, 800, .inl f12))] H := hP
  have hD : va_D AA [(a0, .inr (10, [.int 0, .ref a2, .ref a3, .ref a4, .ref a5, .ref a1, .int 15, .int 0, .int 0, .int 0, .int 0, .long 0, .int 0, .int 0, .int 0, .int (-1), .ref a6, .ref a7, .ref a8, .ref a9, .ref a10, .ref a11, .ref a12, .ref a13, .int 0, .int 0, .ref a14, .ref a15, .int 0, .int 0, .int 0, .ref a16, .ref a17, .int 0, .int 0, .int 0, .int 0, .int 0, .ref a18, .int 0, .int 0, .int 0])), (a1, .inl (cB, 800, .inl f12))] := hD
  refine lv_aload_n hx hb dX10_four_20 rfl (lv_at hl 1 rfl) ?_
  refine lv_dup hx hb dX10_four_21 rfl ?_
  refine va_get (D := D) (ci := 10) (v := .int 15) (C := RX10) (T := TX10) (N := 42) hx hb hts (fun w h => uc_in w (inX10 w h)) hown hK hP 0 rfl rfl 6 (by decide) (hts _ (uc_in _ q_f1194)) (fun _ h9 => h9) rfl dX10_four_22 ?_
  refine lv_iconst (v := 1) hx hb dX10_four_25 (by decide) ?_
  refine lv_iadd hx hb dX10_four_26 ?_
  refine pv_i (v := 16) (by decide) ?_
  refine va_put (D := D) (ci := 10) (v := .int 16) (ty := .int) (C := RX10) (T := TX10) (N := 42) hx hb hts (fun w h => uc_in w (inX10 w h)) tyX10 tyX10_ok nmX10 hown hK hP hD hS 0 rfl rfl 6 (by decide) (hts _ (uc_in _ q_f1194)) (fun _ h9 => h9) rfl (by decide +kernel) rfl rfl (Nat.le_of_ble_eq_true rfl) dX10_four_27 (fun H locs hP hD hS => ?_)
  have hP : va_P D vwCl [(a0, .inr (10, [.int 0, .ref a2, .ref a3, .ref a4, .ref a5, .ref a1, .int 16, .int 0, .int 0, .int 0, .int 0, .long 0, .int 0, .int 0, .int 0, .int (-1), .ref a6, .ref a7, .ref a8, .ref a9, .ref a10, .ref a11, .ref a12, .ref a13, .int 0, .int 0, .ref a14, .ref a15, .int 0, .int 0, .int 0, .ref a16, .ref a17, .int 0, .int 0, .int 0, .int 0, .int 0, .ref a18, .int 0, .int 0, .int 0])), (a1, .inl (cB, 800, .inl f12))] H := hP
  have hD : va_D AA [(a0, .inr (10, [.int 0, .ref a2, .ref a3, .ref a4, .ref a5, .ref a1, .int 16, .int 0, .int 0, .int 0, .int 0, .long 0, .int 0, .int 0, .int 0, .int (-1), .ref a6, .ref a7, .ref a8, .ref a9, .ref a10, .ref a11, .ref a12, .ref a13, .int 0, .int 0, .ref a14, .ref a15, .int 0, .int 0, .int 0, .ref a16, .ref a17, .int 0, .int 0, .int 0, .int 0, .int 0, .ref a18, .int 0, .int 0, .int 0])), (a1, .inl (cB, 800, .inl f12))] := hD
  refine lv_iinc (v := (-8)) (lv' := [(2, .int (-8)), (0, .ref a0), (1, .int x0)]) hx hb dX10_four_30 hl (k := 0) rfl (by decide) (by decide) rfl (fun ls hl => ?_)
  refine lv_goto (tgt := 3) hx hb dX10_four_33 (by decide) ?_
  refine lv_iload_n hx hb dX10_four_3 rfl (lv_at hl 0 rfl) ?_
  refine lv_if_lt (tgt := 36) hx hb dX10_four_4 (by decide) (fun _ => ?_) (fun c9 => absurd (by decide) c9)
  subst hAe
  have hP9 := hP.sub (ws' := [(a0, .inr (10, [.int 0, .ref a2, .ref a3, .ref a4, .ref a5, .ref a1, .int 16, .int 0, .int 0, .int 0, .int 0, .long 0, .int 0, .int 0, .int 0, .int (-1), .ref a6, .ref a7, .ref a8, .ref a9, .ref a10, .ref a11, .ref a12, .ref a13, .int 0, .int 0, .ref a14, .ref a15, .int 0, .int 0, .int 0, .ref a16, .ref a17, .int 0, .int 0, .int 0, .int 0, .int 0, .ref a18, .int 0, .int 0, .int 0])), (a1, .inl (cB, 800, .inl f12))]) [0, 1] rfl
  have hD9 := hD.sub (ws' := [(a0, .inr (10, [.int 0, .ref a2, .ref a3, .ref a4, .ref a5, .ref a1, .int 16, .int 0, .int 0, .int 0, .int 0, .long 0, .int 0, .int 0, .int 0, .int (-1), .ref a6, .ref a7, .ref a8, .ref a9, .ref a10, .ref a11, .ref a12, .ref a13, .int 0, .int 0, .ref a14, .ref a15, .int 0, .int 0, .int 0, .ref a16, .ref a17, .int 0, .int 0, .int 0, .int 0, .int 0, .ref a18, .int 0, .int 0, .int 0])), (a1, .inl (cB, 800, .inl f12))]) [0, 1] rfl rfl
  exact W.vret hx hb hr (fun t ht hW => ⟨⟨f12, rfl, trivial, by rw [ht]; exact hP9, va_K.moved hW.alike hK, hD9⟩, hS.F ht⟩) hS.2.2 dX10_four_36
set_option maxHeartbeats 4000000 in
set_option maxRecDepth 100000 in
theorem kX10_four_4 (l : Launch) (D : va_G) (cB cI cJ cZ cT cR : ClassId) (a0 a1 a2 a3 a4 a5 a6 a7 a8 a9 a10 a11 a12 a13 a14 a15 a16 a17 a18 : Nat) (x0 : Int32) (f90 : Nat → Int32) (sz : Nat) : Met l yX10_four (uc yX10_four cX10_four 3 none) (rmL 1 0 0) (va_Pc [.ref a0, .int x0] (MPre D [(cB, .byte), (cI, .int), (cJ, .long), (cZ, .boolean), (cT, .object RX7), (cR, .object RX3)] [(a0, .inr (10, [.int 0, .ref a2, .ref a3, .ref a4, .ref a5, .ref a1, .int 16, .int 0, .int 0, .int 0, .int 0, .long 0, .int 0, .int 0, .int 0, .int (-1), .ref a6, .ref a7, .ref a8, .ref a9, .ref a10, .ref a11, .ref a12, .ref a13, .int 0, .int 0, .ref a14, .ref a15, .int 0, .int 0, .int 0, .ref a16, .ref a17, .int 0, .int 0, .int 0, .int 0, .int 0, .ref a18, .int 0, .int 0, .int 0])), (a1, .inl (cB, 800, .inl f90))] sz)) (va_Qv (fun (_ : (Nat → Int32)) => True) (MB D [(cB, .byte), (cI, .int), (cJ, .long), (cZ, .boolean), (cT, .object RX7), (cR, .object RX3)] [(a0, .inr (10, [.int 0, .ref a2, .ref a3, .ref a4, .ref a5, .ref a1, .int 16, .int 0, .int 0, .int 0, .int 0, .long 0, .int 0, .int 0, .int 0, .int (-1), .ref a6, .ref a7, .ref a8, .ref a9, .ref a10, .ref a11, .ref a12, .ref a13, .int 0, .int 0, .ref a14, .ref a15, .int 0, .int 0, .int 0, .ref a16, .ref a17, .int 0, .int 0, .int 0, .int 0, .int 0, .ref a18, .int 0, .int 0, .int 0])), (a1, .inl (cB, 800, .inl f90))] sz (fun (u : (Nat → Int32)) => [(a0, .inr (10, [.int 0, .ref a2, .ref a3, .ref a4, .ref a5, .ref a1, .int 20, .int 0, .int 0, .int 0, .int 0, .long 0, .int 0, .int 0, .int 0, .int (-1), .ref a6, .ref a7, .ref a8, .ref a9, .ref a10, .ref a11, .ref a12, .ref a13, .int 0, .int 0, .ref a14, .ref a15, .int 0, .int 0, .int 0, .ref a16, .ref a17, .int 0, .int 0, .int 0, .int 0, .int 0, .ref a18, .int 0, .int 0, .int 0])), (a1, .inl (cB, 800, .inl u))])) (va_A [(a0, .inr (10, [.int 0, .ref a2, .ref a3, .ref a4, .ref a5, .ref a1, .int 16, .int 0, .int 0, .int 0, .int 0, .long 0, .int 0, .int 0, .int 0, .int (-1), .ref a6, .ref a7, .ref a8, .ref a9, .ref a10, .ref a11, .ref a12, .ref a13, .int 0, .int 0, .ref a14, .ref a15, .int 0, .int 0, .int 0, .ref a16, .ref a17, .int 0, .int 0, .int 0, .int 0, .int 0, .ref a18, .int 0, .int 0, .int 0])), (a1, .inl (cB, 800, .inl f90))] sz)) 0 0 (va_A [(a0, .inr (10, [.int 0, .ref a2, .ref a3, .ref a4, .ref a5, .ref a1, .int 16, .int 0, .int 0, .int 0, .int 0, .long 0, .int 0, .int 0, .int 0, .int (-1), .ref a6, .ref a7, .ref a8, .ref a9, .ref a10, .ref a11, .ref a12, .ref a13, .int 0, .int 0, .ref a14, .ref a15, .int 0, .int 0, .int 0, .ref a16, .ref a17, .int 0, .int 0, .int 0, .int 0, .int 0, .ref a18, .int 0, .int 0, .int 0])), (a1, .inl (cB, 800, .inl f90))] sz) := by
  refine pm (by decide) (Nat.le_of_ble_eq_true rfl) ?_
  intro p e s m below meth c ls hx hb hr hml hown hlk hnm hts hv hl
  have hown : s.vm.findClass RX10 = some m.cls := hown
  have hl : lv_has ls 3 [(0, .ref a0), (1, .int x0)] := hl
  obtain ⟨hsz, hP, hK, hD0, hE⟩ := hv
  subst hsz
  have hD := hD0.self (sz := s.heap.size)
  obtain ⟨AA, hAe⟩ : ∃ AA, AA = va_A [(a0, .inr (10, [.int 0, .ref a2, .ref a3, .ref a4, .ref a5, .ref a1, .int 16, .int 0, .int 0, .int 0, .int 0, .long 0, .int 0, .int 0, .int 0, .int (-1), .ref a6, .ref a7, .ref a8, .ref a9, .ref a10, .ref a11, .ref a12, .ref a13, .int 0, .int 0, .ref a14, .ref a15, .int 0, .int 0, .int 0, .ref a16, .ref a17, .int 0, .int 0, .int 0, .int 0, .int 0, .ref a18, .int 0, .int 0, .int 0])), (a1, .inl (cB, 800, .inl f90))] s.heap.size := ⟨_, rfl⟩
  rw [← hAe] at hD
  have hA : ∀ q : Nat, s.heap.size ≤ q → AA q := fun q h => by rw [hAe]; exact Or.inr h
  have hS : va_S AA s.heap s.heap [] := va_S.rf
  obtain ⟨-, hAOT, hAOR, hAOI⟩ := id hE
  refine lv_bipush (v := 24) hx hb dX10_four_0 (by decide) ?_
  refine lv_istore_n (lv' := [(2, .int 24), (0, .ref a0), (1, .int x0)]) hx hb dX10_four_2 rfl hl (by decide) rfl (fun ls hl => ?_)
  refine lv_iload_n hx hb dX10_four_3 rfl (lv_at hl 0 rfl) ?_
  refine lv_if_lt (tgt := 36) hx hb dX10_four_4 (by decide) (fun c9 => absurd c9 (by decide)) (fun _ => ?_)
  refine lv_aload_n hx hb dX10_four_7 rfl (lv_at hl 1 rfl) ?_
  refine va_get (D := D) (ci := 10) (v := .ref a1) (C := RX10) (T := TX10) (N := 42) hx hb hts (fun w h => uc_in w (inX10 w h)) hown hK hP 0 rfl rfl 5 (by decide) (hts _ (uc_in _ q_f1193)) (fun _ h9 => h9) rfl dX10_four_8 ?_
  refine lv_aload_n hx hb dX10_four_11 rfl (lv_at hl 1 rfl) ?_
  refine va_get (D := D) (ci := 10) (v := .int 16) (C := RX10) (T := TX10) (N := 42) hx hb hts (fun w h => uc_in w (inX10 w h)) hown hK hP 0 rfl rfl 6 (by decide) (hts _ (uc_in _ q_f1194)) (fun _ h9 => h9) rfl dX10_four_12 ?_
  refine lv_iload_n hx hb dX10_four_15 rfl (lv_at hl 2 rfl) ?_
  refine lv_iload_n hx hb dX10_four_16 rfl (lv_at hl 0 rfl) ?_
  refine lv_ishr hx hb dX10_four_17 ?_
  refine lv_topi (fun z1 ez1 => ?_)
  refine lv_i2b hx hb dX10_four_18 rfl ?_
  refine lv_topi (fun z2 ez2 => ?_)
  refine va_bast hx hb hK hP hD hS 1 0 rfl rfl (vp_in_iff.mpr ⟨by decide, by decide⟩) dX10_four_19 (fun H locs hP hD hS => ?_)
  obtain ⟨f3, ef3⟩ : ∃ f9, f9 = upd f90 16.toNatClampNeg (vp_nar .byte z2) := ⟨_, rfl⟩
  rw [← ef3] at hP hD
  have hP : va_P D vwCl [(a0, .inr (10, [.int 0, .ref a2, .ref a3, .ref a4, .ref a5, .ref a1, .int 16, .int 0, .int 0, .int 0, .int 0, .long 0, .int 0, .int 0, .int 0, .int (-1), .ref a6, .ref a7, .ref a8, .ref a9, .ref a10, .ref a11, .ref a12, .ref a13, .int 0, .int 0, .ref a14, .ref a15, .int 0, .int 0, .int 0, .ref a16, .ref a17, .int 0, .int 0, .int 0, .int 0, .int 0, .ref a18, .int 0, .int 0, .int 0])), (a1, .inl (cB, 800, .inl f3))] H := hP
  have hD : va_D AA [(a0, .inr (10, [.int 0, .ref a2, .ref a3, .ref a4, .ref a5, .ref a1, .int 16, .int 0, .int 0, .int 0, .int 0, .long 0, .int 0, .int 0, .int 0, .int (-1), .ref a6, .ref a7, .ref a8, .ref a9, .ref a10, .ref a11, .ref a12, .ref a13, .int 0, .int 0, .ref a14, .ref a15, .int 0, .int 0, .int 0, .ref a16, .ref a17, .int 0, .int 0, .int 0, .int 0, .int 0, .ref a18, .int 0, .int 0, .int 0])), (a1, .inl (cB, 800, .inl f3))] := hD
  refine lv_aload_n hx hb dX10_four_20 rfl (lv_at hl 1 rfl) ?_
  refine lv_dup hx hb dX10_four_21 rfl ?_
  refine va_get (D := D) (ci := 10) (v := .int 16) (C := RX10) (T := TX10) (N := 42) hx hb hts (fun w h => uc_in w (inX10 w h)) hown hK hP 0 rfl rfl 6 (by decide) (hts _ (uc_in _ q_f1194)) (fun _ h9 => h9) rfl dX10_four_22 ?_
  refine lv_iconst (v := 1) hx hb dX10_four_25 (by decide) ?_
  refine lv_iadd hx hb dX10_four_26 ?_
  refine pv_i (v := 17) (by decide) ?_
  refine va_put (D := D) (ci := 10) (v := .int 17) (ty := .int) (C := RX10) (T := TX10) (N := 42) hx hb hts (fun w h => uc_in w (inX10 w h)) tyX10 tyX10_ok nmX10 hown hK hP hD hS 0 rfl rfl 6 (by decide) (hts _ (uc_in _ q_f1194)) (fun _ h9 => h9) rfl (by decide +kernel) rfl rfl (Nat.le_of_ble_eq_true rfl) dX10_four_27 (fun H locs hP hD hS => ?_)
  have hP : va_P D vwCl [(a0, .inr (10, [.int 0, .ref a2, .ref a3, .ref a4, .ref a5, .ref a1, .int 17, .int 0, .int 0, .int 0, .int 0, .long 0, .int 0, .int 0, .int 0, .int (-1), .ref a6, .ref a7, .ref a8, .ref a9, .ref a10, .ref a11, .ref a12, .ref a13, .int 0, .int 0, .ref a14, .ref a15, .int 0, .int 0, .int 0, .ref a16, .ref a17, .int 0, .int 0, .int 0, .int 0, .int 0, .ref a18, .int 0, .int 0, .int 0])), (a1, .inl (cB, 800, .inl f3))] H := hP
  have hD : va_D AA [(a0, .inr (10, [.int 0, .ref a2, .ref a3, .ref a4, .ref a5, .ref a1, .int 17, .int 0, .int 0, .int 0, .int 0, .long 0, .int 0, .int 0, .int 0, .int (-1), .ref a6, .ref a7, .ref a8, .ref a9, .ref a10, .ref a11, .ref a12, .ref a13, .int 0, .int 0, .ref a14, .ref a15, .int 0, .int 0, .int 0, .ref a16, .ref a17, .int 0, .int 0, .int 0, .int 0, .int 0, .ref a18, .int 0, .int 0, .int 0])), (a1, .inl (cB, 800, .inl f3))] := hD
  refine lv_iinc (v := 16) (lv' := [(2, .int 16), (0, .ref a0), (1, .int x0)]) hx hb dX10_four_30 hl (k := 0) rfl (by decide) (by decide) rfl (fun ls hl => ?_)
  refine lv_goto (tgt := 3) hx hb dX10_four_33 (by decide) ?_
  refine lv_iload_n hx hb dX10_four_3 rfl (lv_at hl 0 rfl) ?_
  refine lv_if_lt (tgt := 36) hx hb dX10_four_4 (by decide) (fun c9 => absurd c9 (by decide)) (fun _ => ?_)
  refine lv_aload_n hx hb dX10_four_7 rfl (lv_at hl 1 rfl) ?_
  refine va_get (D := D) (ci := 10) (v := .ref a1) (C := RX10) (T := TX10) (N := 42) hx hb hts (fun w h => uc_in w (inX10 w h)) hown hK hP 0 rfl rfl 5 (by decide) (hts _ (uc_in _ q_f1193)) (fun _ h9 => h9) rfl dX10_four_8 ?_
  refine lv_aload_n hx hb dX10_four_11 rfl (lv_at hl 1 rfl) ?_
  refine va_get (D := D) (ci := 10) (v := .int 17) (C := RX10) (T := TX10) (N := 42) hx hb hts (fun w h => uc_in w (inX10 w h)) hown hK hP 0 rfl rfl 6 (by decide) (hts _ (uc_in _ q_f1194)) (fun _ h9 => h9) rfl dX10_four_12 ?_
  refine lv_iload_n hx hb dX10_four_15 rfl (lv_at hl 2 rfl) ?_
  refine lv_iload_n hx hb dX10_four_16 rfl (lv_at hl 0 rfl) ?_
  refine lv_ishr hx hb dX10_four_17 ?_
  refine lv_topi (fun z4 ez4 => ?_)
  refine lv_i2b hx hb dX10_four_18 rfl ?_
  refine lv_topi (fun z5 ez5 => ?_)
  refine va_bast hx hb hK hP hD hS 1 0 rfl rfl (vp_in_iff.mpr ⟨by decide, by decide⟩) dX10_four_19 (fun H locs hP hD hS => ?_)
  obtain ⟨f6, ef6⟩ : ∃ f9, f9 = upd f3 17.toNatClampNeg (vp_nar .byte z5) := ⟨_, rfl⟩
  rw [← ef6] at hP hD
  have hP : va_P D vwCl [(a0, .inr (10, [.int 0, .ref a2, .ref a3, .ref a4, .ref a5, .ref a1, .int 17, .int 0, .int 0, .int 0, .int 0, .long 0, .int 0, .int 0, .int 0, .int (-1), .ref a6, .ref a7, .ref a8, .ref a9, .ref a10, .ref a11, .ref a12, .ref a13, .int 0, .int 0, .ref a14, .ref a15, .int 0, .int 0, .int 0, .ref a16, .ref a17, .int 0, .int 0, .int 0, .int 0, .int 0, .ref a18, .int 0, .int 0, .int 0])), (a1, .inl (cB, 800, .inl f6))] H := hP
  have hD : va_D AA [(a0, .inr (10, [.int 0, .ref a2, .ref a3, .ref a4, .ref a5, .ref a1, .int 17, .int 0, .int 0, .int 0, .int 0, .long 0, .int 0, .int 0, .int 0, .int (-1), .ref a6, .ref a7, .ref a8, .ref a9, .ref a10, .ref a11, .ref a12, .ref a13, .int 0, .int 0, .ref a14, .ref a15, .int 0, .int 0, .int 0, .ref a16, .ref a17, .int 0, .int 0, .int 0, .int 0, .int 0, .ref a18, .int 0, .int 0, .int 0])), (a1, .inl (cB, 800, .inl f6))] := hD
  refine lv_aload_n hx hb dX10_four_20 rfl (lv_at hl 1 rfl) ?_
  refine lv_dup hx hb dX10_four_21 rfl ?_
  refine va_get (D := D) (ci := 10) (v := .int 17) (C := RX10) (T := TX10) (N := 42) hx hb hts (fun w h => uc_in w (inX10 w h)) hown hK hP 0 rfl rfl 6 (by decide) (hts _ (uc_in _ q_f1194)) (fun _ h9 => h9) rfl dX10_four_22 ?_
  refine lv_iconst (v := 1) hx hb dX10_four_25 (by decide) ?_
  refine lv_iadd hx hb dX10_four_26 ?_
  refine pv_i (v := 18) (by decide) ?_
  refine va_put (D := D) (ci := 10) (v := .int 18) (ty := .int) (C := RX10) (T := TX10) (N := 42) hx hb hts (fun w h => uc_in w (inX10 w h)) tyX10 tyX10_ok nmX10 hown hK hP hD hS 0 rfl rfl 6 (by decide) (hts _ (uc_in _ q_f1194)) (fun _ h9 => h9) rfl (by decide +kernel) rfl rfl (Nat.le_of_ble_eq_true rfl) dX10_four_27 (fun H locs hP hD hS => ?_)
  have hP : va_P D vwCl [(a0, .inr (10, [.int 0, .ref a2, .ref a3, .ref a4, .ref a5, .ref a1, .int 18, .int 0, .int 0, .int 0, .int 0, .long 0, .int 0, .int 0, .int 0, .int (-1), .ref a6, .ref a7, .ref a8, .ref a9, .ref a10, .ref a11, .ref a12, .ref a13, .int 0, .int 0, .ref a14, .ref a15, .int 0, .int 0, .int 0, .ref a16, .ref a17, .int 0, .int 0, .int 0, .int 0, .int 0, .ref a18, .int 0, .int 0, .int 0])), (a1, .inl (cB, 800, .inl f6))] H := hP
  have hD : va_D AA [(a0, .inr (10, [.int 0, .ref a2, .ref a3, .ref a4, .ref a5, .ref a1, .int 18, .int 0, .int 0, .int 0, .int 0, .long 0, .int 0, .int 0, .int 0, .int (-1), .ref a6, .ref a7, .ref a8, .ref a9, .ref a10, .ref a11, .ref a12, .ref a13, .int 0, .int 0, .ref a14, .ref a15, .int 0, .int 0, .int 0, .ref a16, .ref a17, .int 0, .int 0, .int 0, .int 0, .int 0, .ref a18, .int 0, .int 0, .int 0])), (a1, .inl (cB, 800, .inl f6))] := hD
  refine lv_iinc (v := 8) (lv' := [(2, .int 8), (0, .ref a0), (1, .int x0)]) hx hb dX10_four_30 hl (k := 0) rfl (by decide) (by decide) rfl (fun ls hl => ?_)
  refine lv_goto (tgt := 3) hx hb dX10_four_33 (by decide) ?_
  refine lv_iload_n hx hb dX10_four_3 rfl (lv_at hl 0 rfl) ?_
  refine lv_if_lt (tgt := 36) hx hb dX10_four_4 (by decide) (fun c9 => absurd c9 (by decide)) (fun _ => ?_)
  refine lv_aload_n hx hb dX10_four_7 rfl (lv_at hl 1 rfl) ?_
  refine va_get (D := D) (ci := 10) (v := .ref a1) (C := RX10) (T := TX10) (N := 42) hx hb hts (fun w h => uc_in w (inX10 w h)) hown hK hP 0 rfl rfl 5 (by decide) (hts _ (uc_in _ q_f1193)) (fun _ h9 => h9) rfl dX10_four_8 ?_
  refine lv_aload_n hx hb dX10_four_11 rfl (lv_at hl 1 rfl) ?_
  refine va_get (D := D) (ci := 10) (v := .int 18) (C := RX10) (T := TX10) (N := 42) hx hb hts (fun w h => uc_in w (inX10 w h)) hown hK hP 0 rfl rfl 6 (by decide) (hts _ (uc_in _ q_f1194)) (fun _ h9 => h9) rfl dX10_four_12 ?_
  refine lv_iload_n hx hb dX10_four_15 rfl (lv_at hl 2 rfl) ?_
  refine lv_iload_n hx hb dX10_four_16 rfl (lv_at hl 0 rfl) ?_
  refine lv_ishr hx hb dX10_four_17 ?_
  refine lv_topi (fun z7 ez7 => ?_)
  refine lv_i2b hx hb dX10_four_18 rfl ?_
  refine lv_topi (fun z8 ez8 => ?_)
  refine va_bast hx hb hK hP hD hS 1 0 rfl rfl (vp_in_iff.mpr ⟨by decide, by decide⟩) dX10_four_19 (fun H locs hP hD hS => ?_)
  obtain ⟨f9, ef9⟩ : ∃ f9, f9 = upd f6 18.toNatClampNeg (vp_nar .byte z8) := ⟨_, rfl⟩
  rw [← ef9] at hP hD
  have hP : va_P D vwCl [(a0, .inr (10, [.int 0, .ref a2, .ref a3, .ref a4, .ref a5, .ref a1, .int 18, .int 0, .int 0, .int 0, .int 0, .long 0, .int 0, .int 0, .int 0, .int (-1), .ref a6, .ref a7, .ref a8, .ref a9, .ref a10, .ref a11, .ref a12, .ref a13, .int 0, .int 0, .ref a14, .ref a15, .int 0, .int 0, .int 0, .ref a16, .ref a17, .int 0, .int 0, .int 0, .int 0, .int 0, .ref a18, .int 0, .int 0, .int 0])), (a1, .inl (cB, 800, .inl f9))] H := hP
  have hD : va_D AA [(a0, .inr (10, [.int 0, .ref a2, .ref a3, .ref a4, .ref a5, .ref a1, .int 18, .int 0, .int 0, .int 0, .int 0, .long 0, .int 0, .int 0, .int 0, .int (-1), .ref a6, .ref a7, .ref a8, .ref a9, .ref a10, .ref a11, .ref a12, .ref a13, .int 0, .int 0, .ref a14, .ref a15, .int 0, .int 0, .int 0, .ref a16, .ref a17, .int 0, .int 0, .int 0, .int 0, .int 0, .ref a18, .int 0, .int 0, .int 0])), (a1, .inl (cB, 800, .inl f9))] := hD
  refine lv_aload_n hx hb dX10_four_20 rfl (lv_at hl 1 rfl) ?_
  refine lv_dup hx hb dX10_four_21 rfl ?_
  refine va_get (D := D) (ci := 10) (v := .int 18) (C := RX10) (T := TX10) (N := 42) hx hb hts (fun w h => uc_in w (inX10 w h)) hown hK hP 0 rfl rfl 6 (by decide) (hts _ (uc_in _ q_f1194)) (fun _ h9 => h9) rfl dX10_four_22 ?_
  refine lv_iconst (v := 1) hx hb dX10_four_25 (by decide) ?_
  refine lv_iadd hx hb dX10_four_26 ?_
  refine pv_i (v := 19) (by decide) ?_
  refine va_put (D := D) (ci := 10) (v := .int 19) (ty := .int) (C := RX10) (T := TX10) (N := 42) hx hb hts (fun w h => uc_in w (inX10 w h)) tyX10 tyX10_ok nmX10 hown hK hP hD hS 0 rfl rfl 6 (by decide) (hts _ (uc_in _ q_f1194)) (fun _ h9 => h9) rfl (by decide +kernel) rfl rfl (Nat.le_of_ble_eq_true rfl) dX10_four_27 (fun H locs hP hD hS => ?_)
  have hP : va_P D vwCl [(a0, .inr (10, [.int 0, .ref a2, .ref a3, .ref a4, .ref a5, .ref a1, .int 19, .int 0, .int 0, .int 0, .int 0, .long 0, .int 0, .int 0, .int 0, .int (-1), .ref a6, .ref a7, .ref a8, .ref a9, .ref a10, .ref a11, .ref a12, .ref a13, .int 0, .int 0, .ref a14, .ref a15, .int 0, .int 0, .int 0, .ref a16, .ref a17, .int 0, .int 0, .int 0, .int 0, .int 0, .ref a18, .int 0, .int 0, .int 0])), (a1, .inl (cB, 800, .inl f9))] H := hP
  have hD : va_D AA [(a0, .inr (10, [.int 0, .ref a2, .ref a3, .ref a4, .ref a5, .ref a1, .int 19, .int 0, .int 0, .int 0, .int 0, .long 0, .int 0, .int 0, .int 0, .int (-1), .ref a6, .ref a7, .ref a8, .ref a9, .ref a10, .ref a11, .ref a12, .ref a13, .int 0, .int 0, .ref a14, .ref a15, .int 0, .int 0, .int 0, .ref a16, .ref a17, .int 0, .int 0, .int 0, .int 0, .int 0, .ref a18, .int 0, .int 0, .int 0])), (a1, .inl (cB, 800, .inl f9))] := hD
  refine lv_iinc (v := 0) (lv' := [(2, .int 0), (0, .ref a0), (1, .int x0)]) hx hb dX10_four_30 hl (k := 0) rfl (by decide) (by decide) rfl (fun ls hl => ?_)
  refine lv_goto (tgt := 3) hx hb dX10_four_33 (by decide) ?_
  refine lv_iload_n hx hb dX10_four_3 rfl (lv_at hl 0 rfl) ?_
  refine lv_if_lt (tgt := 36) hx hb dX10_four_4 (by decide) (fun c9 => absurd c9 (by decide)) (fun _ => ?_)
  refine lv_aload_n hx hb dX10_four_7 rfl (lv_at hl 1 rfl) ?_
  refine va_get (D := D) (ci := 10) (v := .ref a1) (C := RX10) (T := TX10) (N := 42) hx hb hts (fun w h => uc_in w (inX10 w h)) hown hK hP 0 rfl rfl 5 (by decide) (hts _ (uc_in _ q_f1193)) (fun _ h9 => h9) rfl dX10_four_8 ?_
  refine lv_aload_n hx hb dX10_four_11 rfl (lv_at hl 1 rfl) ?_
  refine va_get (D := D) (ci := 10) (v := .int 19) (C := RX10) (T := TX10) (N := 42) hx hb hts (fun w h => uc_in w (inX10 w h)) hown hK hP 0 rfl rfl 6 (by decide) (hts _ (uc_in _ q_f1194)) (fun _ h9 => h9) rfl dX10_four_12 ?_
  refine lv_iload_n hx hb dX10_four_15 rfl (lv_at hl 2 rfl) ?_
  refine lv_iload_n hx hb dX10_four_16 rfl (lv_at hl 0 rfl) ?_
  refine lv_ishr hx hb dX10_four_17 ?_
  refine lv_topi (fun z10 ez10 => ?_)
  refine lv_i2b hx hb dX10_four_18 rfl ?_
  refine lv_topi (fun z11 ez11 => ?_)
  refine va_bast hx hb hK hP hD hS 1 0 rfl rfl (vp_in_iff.mpr ⟨by decide, by decide⟩) dX10_four_19 (fun H locs hP hD hS => ?_)
  obtain ⟨f12, ef12⟩ : ∃ f9, f9 = upd f9 19.toNatClampNeg (vp_nar .byte z11) := ⟨_, rfl⟩
  rw [← ef12] at hP hD
  have hP : va_P D vwCl [(a0, .inr (10, [.int 0, .ref a2, .ref a3, .ref a4, .ref a5, .ref a1, .int 19, .int 0, .int 0, .int 0, .int 0, .long 0, .int 0, .int 0, .int 0, .int (-1), .ref a6, .ref a7, .ref a8, .ref a9, .ref a10, .ref a11, .ref a12, .ref a13, .int 0, .int 0, .ref a14, .ref a15, .int 0, .int 0, .int 0, .ref a16, .ref a17, .int 0, .int 0, .int 0, .int 0, .int 0, .ref a18, .int 0, .int 0, .int 0])), (a1, .inl (cB, 800, .inl f12))] H := hP
  have hD : va_D AA [(a0, .inr (10, [.int 0, .ref a2, .ref a3, .ref a4, .ref a5, .ref a1, .int 19, .int 0, .int 0, .int 0, .int 0, .long 0, .int 0, .int 0, .int 0, .int (-1), .ref a6, .ref a7, .ref a8, .ref a9, .ref a10, .ref a11, .ref a12, .ref a13, .int 0, .int 0, .ref a14, .ref a15, .int 0, .int 0, .int 0, .ref a16, .ref a17, .int 0, .int 0, .int 0, .int 0, .int 0, .ref a18, .int 0, .int 0, .int 0])), (a1, .inl (cB, 800, .inl f12))] := hD
  refine lv_aload_n hx hb dX10_four_20 rfl (lv_at hl 1 rfl) ?_
  refine lv_dup hx hb dX10_four_21 rfl ?_
  refine va_get (D := D) (ci := 10) (v := .int 19) (C := RX10) (T := TX10) (N := 42) hx hb hts (fun w h => uc_in w (inX10 w h)) hown hK hP 0 rfl rfl 6 (by decide) (hts _ (uc_in _ q_f1194)) (fun _ h9 => h9) rfl dX10_four_22 ?_
  refine lv_iconst (v := 1) hx hb dX10_four_25 (by decide) ?_
  refine lv_iadd hx hb dX10_four_26 ?_
  refine pv_i (v := 20) (by decide) ?_
  refine va_put (D := D) (ci := 10) (v := .int 20) (ty := .int) (C := RX10) (T := TX10) (N := 42) hx hb hts (fun w h => uc_in w (inX10 w h)) tyX10 tyX10_ok nmX10 hown hK hP hD hS 0 rfl rfl 6 (by decide) (hts _ (uc_in _ q_f1194)) (fun _ h9 => h9) rfl (by decide +kernel) rfl rfl (Nat.le_of_ble_eq_true rfl) dX10_four_27 (fun H locs hP hD hS => ?_)
  have hP : va_P D vwCl [(a0, .inr (10, [.int 0, .ref a2, .ref a3, .ref a4, .ref a5, .ref a1, .int 20, .int 0, .int 0, .int 0, .int 0, .long 0, .int 0, .int 0, .int 0, .int (-1), .ref a6, .ref a7, .ref a8, .ref a9, .ref a10, .ref a11, .ref a12, .ref a13, .int 0, .int 0, .ref a14, .ref a15, .int 0, .int 0, .int 0, .ref a16, .ref a17, .int 0, .int 0, .int 0, .int 0, .int 0, .ref a18, .int 0, .int 0, .int 0])), (a1, .inl (cB, 800, .inl f12))] H := hP
  have hD : va_D AA [(a0, .inr (10, [.int 0, .ref a2, .ref a3, .ref a4, .ref a5, .ref a1, .int 20, .int 0, .int 0, .int 0, .int 0, .long 0, .int 0, .int 0, .int 0, .int (-1), .ref a6, .ref a7, .ref a8, .ref a9, .ref a10, .ref a11, .ref a12, .ref a13, .int 0, .int 0, .ref a14, .ref a15, .int 0, .int 0, .int 0, .ref a16, .ref a17, .int 0, .int 0, .int 0, .int 0, .int 0, .ref a18, .int 0, .int 0, .int 0])), (a1, .inl (cB, 800, .inl f12))] := hD
  refine lv_iinc (v := (-8)) (lv' := [(2, .int (-8)), (0, .ref a0), (1, .int x0)]) hx hb dX10_four_30 hl (k := 0) rfl (by decide) (by decide) rfl (fun ls hl => ?_)
  refine lv_goto (tgt := 3) hx hb dX10_four_33 (by decide) ?_
  refine lv_iload_n hx hb dX10_four_3 rfl (lv_at hl 0 rfl) ?_
  refine lv_if_lt (tgt := 36) hx hb dX10_four_4 (by decide) (fun _ => ?_) (fun c9 => absurd (by decide) c9)
  subst hAe
  have hP9 := hP.sub (ws' := [(a0, .inr (10, [.int 0, .ref a2, .ref a3, .ref a4, .ref a5, .ref a1, .int 20, .int 0, .int 0, .int 0, .int 0, .long 0, .int 0, .int 0, .int 0, .int (-1), .ref a6, .ref a7, .ref a8, .ref a9, .ref a10, .ref a11, .ref a12, .ref a13, .int 0, .int 0, .ref a14, .ref a15, .int 0, .int 0, .int 0, .ref a16, .ref a17, .int 0, .int 0, .int 0, .int 0, .int 0, .ref a18, .int 0, .int 0, .int 0])), (a1, .inl (cB, 800, .inl f12))]) [0, 1] rfl
  have hD9 := hD.sub (ws' := [(a0, .inr (10, [.int 0, .ref a2, .ref a3, .ref a4, .ref a5, .ref a1, .int 20, .int 0, .int 0, .int 0, .int 0, .long 0, .int 0, .int 0, .int 0, .int (-1), .ref a6, .ref a7, .ref a8, .ref a9, .ref a10, .ref a11, .ref a12, .ref a13, .int 0, .int 0, .ref a14, .ref a15, .int 0, .int 0, .int 0, .ref a16, .ref a17, .int 0, .int 0, .int 0, .int 0, .int 0, .ref a18, .int 0, .int 0, .int 0])), (a1, .inl (cB, 800, .inl f12))]) [0, 1] rfl rfl
  exact W.vret hx hb hr (fun t ht hW => ⟨⟨f12, rfl, trivial, by rw [ht]; exact hP9, va_K.moved hW.alike hK, hD9⟩, hS.F ht⟩) hS.2.2 dX10_four_36
set_option maxHeartbeats 4000000 in
set_option maxRecDepth 100000 in
theorem kX10_feed_0 (l : Launch) (D : va_G) (cB cI cJ cZ cT cR : ClassId) (a0 a1 a2 a3 a4 a5 a6 a7 a8 a9 a10 a11 a12 a13 a14 a15 a16 a17 a18 : Nat) (x0 : Int32) (x1 : Int32) (x2 : Int32) (x3 : Int32) (x4 : Int32) (sz : Nat) : Met l yX10_feed (uc yX10_feed cX10_feed 6 (some .int)) (rmL 2 0 0) (va_Pc [.ref a0, .int x0, .int x1, .int x2, .int x3, .int x4] (MPre D [(cB, .byte), (cI, .int), (cJ, .long), (cZ, .boolean), (cT, .object RX7), (cR, .object RX3)] [(a0, .inr (10, [.int 0, .ref a2, .ref a3, .ref a4, .ref a5, .ref a1, .int 0, .int 0, .int 0, .int 0, .int 0, .long 0, .int 0, .int 0, .int 0, .int (-1), .ref a6, .ref a7, .ref a8, .ref a9, .ref a10, .ref a11, .ref a12, .ref a13, .int 0, .int 0, .ref a14, .ref a15, .int 0, .int 0, .int 0, .ref a16, .ref a17, .int 0, .int 0, .int 0, .int 0, .int 0, .ref a18, .int 0, .int 0, .int 0])), (a1, .inl (cB, 800, .inl (fun _ => 0)))] sz)) (va_Qi (fun (r : Int32) (_ : (Nat → Int32)) => r = 20) (MB D [(cB, .byte), (cI, .int), (cJ, .long), (cZ, .boolean), (cT, .object RX7), (cR, .object RX3)] [(a0, .inr (10, [.int 0, .ref a2, .ref a3, .ref a4, .ref a5, .ref a1, .int 0, .int 0, .int 0, .int 0, .int 0, .long 0, .int 0, .int 0, .int 0, .int (-1), .ref a6, .ref a7, .ref a8, .ref a9, .ref a10, .ref a11, .ref a12, .ref a13, .int 0, .int 0, .ref a14, .ref a15, .int 0, .int 0, .int 0, .ref a16, .ref a17, .int 0, .int 0, .int 0, .int 0, .int 0, .ref a18, .int 0, .int 0, .int 0])), (a1, .inl (cB, 800, .inl (fun _ => 0)))] sz (fun (u : (Nat → Int32)) => [(a0, .inr (10, [.int 0, .ref a2, .ref a3, .ref a4, .ref a5, .ref a1, .int 20, .int 0, .int 0, .int 0, .int 0, .long 0, .int 0, .int 0, .int 0, .int (-1), .ref a6, .ref a7, .ref a8, .ref a9, .ref a10, .ref a11, .ref a12, .ref a13, .int 0, .int 0, .ref a14, .ref a15, .int 0, .int 0, .int 0, .ref a16, .ref a17, .int 0, .int 0, .int 0, .int 0, .int 0, .ref a18, .int 0, .int 0, .int 0])), (a1, .inl (cB, 800, .inl u))])) (va_A [(a0, .inr (10, [.int 0, .ref a2, .ref a3, .ref a4, .ref a5, .ref a1, .int 0, .int 0, .int 0, .int 0, .int 0, .long 0, .int 0, .int 0, .int 0, .int (-1), .ref a6, .ref a7, .ref a8, .ref a9, .ref a10, .ref a11, .ref a12, .ref a13, .int 0, .int 0, .ref a14, .ref a15, .int 0, .int 0, .int 0, .ref a16, .ref a17, .int 0, .int 0, .int 0, .int 0, .int 0, .ref a18, .int 0, .int 0, .int 0])), (a1, .inl (cB, 800, .inl (fun _ => 0)))] sz)) 0 0 (va_A [(a0, .inr (10, [.int 0, .ref a2, .ref a3, .ref a4, .ref a5, .ref a1, .int 0, .int 0, .int 0, .int 0, .int 0, .long 0, .int 0, .int 0, .int 0, .int (-1), .ref a6, .ref a7, .ref a8, .ref a9, .ref a10, .ref a11, .ref a12, .ref a13, .int 0, .int 0, .ref a14, .ref a15, .int 0, .int 0, .int 0, .ref a16, .ref a17, .int 0, .int 0, .int 0, .int 0, .int 0, .ref a18, .int 0, .int 0, .int 0])), (a1, .inl (cB, 800, .inl (fun _ => 0)))] sz) := by
  refine pm (by decide) (Nat.le_of_ble_eq_true rfl) ?_
  intro p e s m below meth c ls hx hb hr hml hown hlk hnm hts hv hl
  have hown : s.vm.findClass RX10 = some m.cls := hown
  have hl : lv_has ls 6 [(0, .ref a0), (1, .int x0), (2, .int x1), (3, .int x2), (4, .int x3), (5, .int x4)] := hl
  obtain ⟨hsz, hP, hK, hD0, hE⟩ := hv
  subst hsz
  have hD := hD0.self (sz := s.heap.size)
  obtain ⟨AA, hAe⟩ : ∃ AA, AA = va_A [(a0, .inr (10, [.int 0, .ref a2, .ref a3, .ref a4, .ref a5, .ref a1, .int 0, .int 0, .int 0, .int 0, .int 0, .long 0, .int 0, .int 0, .int 0, .int (-1), .ref a6, .ref a7, .ref a8, .ref a9, .ref a10, .ref a11, .ref a12, .ref a13, .int 0, .int 0, .ref a14, .ref a15, .int 0, .int 0, .int 0, .ref a16, .ref a17, .int 0, .int 0, .int 0, .int 0, .int 0, .ref a18, .int 0, .int 0, .int 0])), (a1, .inl (cB, 800, .inl (fun _ => 0)))] s.heap.size := ⟨_, rfl⟩
  rw [← hAe] at hD
  have hA : ∀ q : Nat, s.heap.size ≤ q → AA q := fun q h => by rw [hAe]; exact Or.inr h
  have hS : va_S AA s.heap s.heap [] := va_S.rf
  obtain ⟨-, hAOT, hAOR, hAOI⟩ := id hE
  refine lv_aload_n hx hb dX10_feed_0 rfl (lv_at hl 0 rfl) ?_
  refine lv_iconst (v := 0) hx hb dX10_feed_1 (by decide) ?_
  refine va_put (D := D) (ci := 10) (v := .int 0) (ty := .int) (C := RX10) (T := TX10) (N := 42) hx hb hts (fun w h => uc_in w (inX10 w h)) tyX10 tyX10_ok nmX10 hown hK hP hD hS 0 rfl rfl 0 (by decide) (hts _ (uc_in _ q_f1188)) (fun _ h9 => h9) rfl (by decide +kernel) rfl rfl (Nat.le_of_ble_eq_true rfl) dX10_feed_2 (fun H locs hP hD hS => ?_)
  have hP : va_P D vwCl [(a0, .inr (10, [.int 0, .ref a2, .ref a3, .ref a4, .ref a5, .ref a1, .int 0, .int 0, .int 0, .int 0, .int 0, .long 0, .int 0, .int 0, .int 0, .int (-1), .ref a6, .ref a7, .ref a8, .ref a9, .ref a10, .ref a11, .ref a12, .ref a13, .int 0, .int 0, .ref a14, .ref a15, .int 0, .int 0, .int 0, .ref a16, .ref a17, .int 0, .int 0, .int 0, .int 0, .int 0, .ref a18, .int 0, .int 0, .int 0])), (a1, .inl (cB, 800, .inl (fun _ => 0)))] H := hP
  have hD : va_D AA [(a0, .inr (10, [.int 0, .ref a2, .ref a3, .ref a4, .ref a5, .ref a1, .int 0, .int 0, .int 0, .int 0, .int 0, .long 0, .int 0, .int 0, .int 0, .int (-1), .ref a6, .ref a7, .ref a8, .ref a9, .ref a10, .ref a11, .ref a12, .ref a13, .int 0, .int 0, .ref a14, .ref a15, .int 0, .int 0, .int 0, .ref a16, .ref a17, .int 0, .int 0, .int 0, .int 0, .int 0, .ref a18, .int 0, .int 0, .int 0])), (a1, .inl (cB, 800, .inl (fun _ => 0)))] := hD
  refine lv_aload_n hx hb dX10_feed_5 rfl (lv_at hl 0 rfl) ?_
  refine va_get (D := D) (ci := 10) (v := .int 0) (C := RX10) (T := TX10) (N := 42) hx hb hts (fun w h => uc_in w (inX10 w h)) hown hK hP 0 rfl rfl 6 (by decide) (hts _ (uc_in _ q_f1194)) (fun _ h9 => h9) rfl dX10_feed_6 ?_
  refine lv_bipush (v := 20) hx hb dX10_feed_9 (by decide) ?_
  refine lv_iadd hx hb dX10_feed_11 ?_
  refine pv_i (v := 20) (by decide) ?_
  refine lv_sipush (v := 800) hx hb dX10_feed_12 (by decide) ?_
  refine lv_icmp_le (tgt := 20) hx hb dX10_feed_15 (by decide) (fun _ => ?_) (fun c9 => absurd (by decide) c9)
  refine lv_aload_n hx hb dX10_feed_20 rfl (lv_at hl 0 rfl) ?_
  refine lv_iload_n hx hb dX10_feed_21 rfl (lv_at hl 1 rfl) ?_
  refine cvV (n := 1) (As := [.int x0]) (rest := []) (wr := []) ⟨hx, hb, hml, hown, hts⟩ uc_in (kX10_four_0 l D cB cI cJ cZ cT cR a0 a1 a2 a3 a4 a5 a6 a7 a8 a9 a10 a11 a12 a13 a14 a15 a16 a17 a18 x0 H.size) q_m1342 q_n1344 q_p51 q_i11 q_c1345 (by decide +kernel) ⟨(Nat.le_of_ble_eq_true rfl), (Nat.le_of_ble_eq_true rfl)⟩ ⟨(Nat.le_of_ble_eq_true rfl), (Nat.le_of_ble_eq_true rfl)⟩ hE hK hP hD hS hA [0, 1] [] rfl rfl rfl rfl (by decide) 10 0 rfl rfl rfl hl.1 rfl (Nat.le_of_ble_eq_true rfl) dX10_feed_22 (fun u H locs hpo hP hD hS => ?_)
  obtain ⟨f1, rfl⟩ : ∃ z9, z9 = u := ⟨_, rfl⟩
  have hP : va_P D vwCl [(a0, .inr (10, [.int 0, .ref a2, .ref a3, .ref a4, .ref a5, .ref a1, .int 4, .int 0, .int 0, .int 0, .int 0, .long 0, .int 0, .int 0, .int 0, .int (-1), .ref a6, .ref a7, .ref a8, .ref a9, .ref a10, .ref a11, .ref a12, .ref a13, .int 0, .int 0, .ref a14, .ref a15, .int 0, .int 0, .int 0, .ref a16, .ref a17, .int 0, .int 0, .int 0, .int 0, .int 0, .ref a18, .int 0, .int 0, .int 0])), (a1, .inl (cB, 800, .inl f1))] H := hP
  have hD : va_D AA [(a0, .inr (10, [.int 0, .ref a2, .ref a3, .ref a4, .ref a5, .ref a1, .int 4, .int 0, .int 0, .int 0, .int 0, .long 0, .int 0, .int 0, .int 0, .int (-1), .ref a6, .ref a7, .ref a8, .ref a9, .ref a10, .ref a11, .ref a12, .ref a13, .int 0, .int 0, .ref a14, .ref a15, .int 0, .int 0, .int 0, .ref a16, .ref a17, .int 0, .int 0, .int 0, .int 0, .int 0, .ref a18, .int 0, .int 0, .int 0])), (a1, .inl (cB, 800, .inl f1))] := hD
  refine W.cs (cells' := 0) (slots' := 0) rfl rfl ?_
  refine lv_aload_n hx hb dX10_feed_25 rfl (lv_at hl 0 rfl) ?_
  refine lv_iload_n hx hb dX10_feed_26 rfl (lv_at hl 2 rfl) ?_
  refine cvV (n := 1) (As := [.int x1]) (rest := []) (wr := []) ⟨hx, hb, hml, hown, hts⟩ uc_in (kX10_four_1 l D cB cI cJ cZ cT cR a0 a1 a2 a3 a4 a5 a6 a7 a8 a9 a10 a11 a12 a13 a14 a15 a16 a17 a18 x1 f1 H.size) q_m1342 q_n1344 q_p51 q_i11 q_c1345 (by decide +kernel) ⟨(Nat.le_of_ble_eq_true rfl), (Nat.le_of_ble_eq_true rfl)⟩ ⟨(Nat.le_of_ble_eq_true rfl), (Nat.le_of_ble_eq_true rfl)⟩ hE hK hP hD hS hA [0, 1] [] rfl rfl rfl rfl (by decide) 10 0 rfl rfl rfl hl.1 rfl (Nat.le_of_ble_eq_true rfl) dX10_feed_27 (fun u H locs hpo hP hD hS => ?_)
  obtain ⟨f2, rfl⟩ : ∃ z9, z9 = u := ⟨_, rfl⟩
  have hP : va_P D vwCl [(a0, .inr (10, [.int 0, .ref a2, .ref a3, .ref a4, .ref a5, .ref a1, .int 8, .int 0, .int 0, .int 0, .int 0, .long 0, .int 0, .int 0, .int 0, .int (-1), .ref a6, .ref a7, .ref a8, .ref a9, .ref a10, .ref a11, .ref a12, .ref a13, .int 0, .int 0, .ref a14, .ref a15, .int 0, .int 0, .int 0, .ref a16, .ref a17, .int 0, .int 0, .int 0, .int 0, .int 0, .ref a18, .int 0, .int 0, .int 0])), (a1, .inl (cB, 800, .inl f2))] H := hP
  have hD : va_D AA [(a0, .inr (10, [.int 0, .ref a2, .ref a3, .ref a4, .ref a5, .ref a1, .int 8, .int 0, .int 0, .int 0, .int 0, .long 0, .int 0, .int 0, .int 0, .int (-1), .ref a6, .ref a7, .ref a8, .ref a9, .ref a10, .ref a11, .ref a12, .ref a13, .int 0, .int 0, .ref a14, .ref a15, .int 0, .int 0, .int 0, .ref a16, .ref a17, .int 0, .int 0, .int 0, .int 0, .int 0, .ref a18, .int 0, .int 0, .int 0])), (a1, .inl (cB, 800, .inl f2))] := hD
  refine W.cs (cells' := 0) (slots' := 0) rfl rfl ?_
  refine lv_aload_n hx hb dX10_feed_30 rfl (lv_at hl 0 rfl) ?_
  refine lv_iload_n hx hb dX10_feed_31 rfl (lv_at hl 3 rfl) ?_
  refine cvV (n := 1) (As := [.int x2]) (rest := []) (wr := []) ⟨hx, hb, hml, hown, hts⟩ uc_in (kX10_four_2 l D cB cI cJ cZ cT cR a0 a1 a2 a3 a4 a5 a6 a7 a8 a9 a10 a11 a12 a13 a14 a15 a16 a17 a18 x2 f2 H.size) q_m1342 q_n1344 q_p51 q_i11 q_c1345 (by decide +kernel) ⟨(Nat.le_of_ble_eq_true rfl), (Nat.le_of_ble_eq_true rfl)⟩ ⟨(Nat.le_of_ble_eq_true rfl), (Nat.le_of_ble_eq_true rfl)⟩ hE hK hP hD hS hA [0, 1] [] rfl rfl rfl rfl (by decide) 10 0 rfl rfl rfl hl.1 rfl (Nat.le_of_ble_eq_true rfl) dX10_feed_32 (fun u H locs hpo hP hD hS => ?_)
  obtain ⟨f3, rfl⟩ : ∃ z9, z9 = u := ⟨_, rfl⟩
  have hP : va_P D vwCl [(a0, .inr (10, [.int 0, .ref a2, .ref a3, .ref a4, .ref a5, .ref a1, .int 12, .int 0, .int 0, .int 0, .int 0, .long 0, .int 0, .int 0, .int 0, .int (-1), .ref a6, .ref a7, .ref a8, .ref a9, .ref a10, .ref a11, .ref a12, .ref a13, .int 0, .int 0, .ref a14, .ref a15, .int 0, .int 0, .int 0, .ref a16, .ref a17, .int 0, .int 0, .int 0, .int 0, .int 0, .ref a18, .int 0, .int 0, .int 0])), (a1, .inl (cB, 800, .inl f3))] H := hP
  have hD : va_D AA [(a0, .inr (10, [.int 0, .ref a2, .ref a3, .ref a4, .ref a5, .ref a1, .int 12, .int 0, .int 0, .int 0, .int 0, .long 0, .int 0, .int 0, .int 0, .int (-1), .ref a6, .ref a7, .ref a8, .ref a9, .ref a10, .ref a11, .ref a12, .ref a13, .int 0, .int 0, .ref a14, .ref a15, .int 0, .int 0, .int 0, .ref a16, .ref a17, .int 0, .int 0, .int 0, .int 0, .int 0, .ref a18, .int 0, .int 0, .int 0])), (a1, .inl (cB, 800, .inl f3))] := hD
  refine W.cs (cells' := 0) (slots' := 0) rfl rfl ?_
  refine lv_aload_n hx hb dX10_feed_35 rfl (lv_at hl 0 rfl) ?_
  refine lv_iload hx hb dX10_feed_36 (lv_at hl 4 rfl) ?_
  refine cvV (n := 1) (As := [.int x3]) (rest := []) (wr := []) ⟨hx, hb, hml, hown, hts⟩ uc_in (kX10_four_3 l D cB cI cJ cZ cT cR a0 a1 a2 a3 a4 a5 a6 a7 a8 a9 a10 a11 a12 a13 a14 a15 a16 a17 a18 x3 f3 H.size) q_m1342 q_n1344 q_p51 q_i11 q_c1345 (by decide +kernel) ⟨(Nat.le_of_ble_eq_true rfl), (Nat.le_of_ble_eq_true rfl)⟩ ⟨(Nat.le_of_ble_eq_true rfl), (Nat.le_of_ble_eq_true rfl)⟩ hE hK hP hD hS hA [0, 1] [] rfl rfl rfl rfl (by decide) 10 0 rfl rfl rfl hl.1 rfl (Nat.le_of_ble_eq_true rfl) dX10_feed_38 (fun u H locs hpo hP hD hS => ?_)
  obtain ⟨f4, rfl⟩ : ∃ z9, z9 = u := ⟨_, rfl⟩
  have hP : va_P D vwCl [(a0, .inr (10, [.int 0, .ref a2, .ref a3, .ref a4, .ref a5, .ref a1, .int 16, .int 0, .int 0, .int 0, .int 0, .long 0, .int 0, .int 0, .int 0, .int (-1), .ref a6, .ref a7, .ref a8, .ref a9, .ref a10, .ref a11, .ref a12, .ref a13, .int 0, .int 0, .ref a14, .ref a15, .int 0, .int 0, .int 0, .ref a16, .ref a17, .int 0, .int 0, .int 0, .int 0, .int 0, .ref a18, .int 0, .int 0, .int 0])), (a1, .inl (cB, 800, .inl f4))] H := hP
  have hD : va_D AA [(a0, .inr (10, [.int 0, .ref a2, .ref a3, .ref a4, .ref a5, .ref a1, .int 16, .int 0, .int 0, .int 0, .int 0, .long 0, .int 0, .int 0, .int 0, .int (-1), .ref a6, .ref a7, .ref a8, .ref a9, .ref a10, .ref a11, .ref a12, .ref a13, .int 0, .int 0, .ref a14, .ref a15, .int 0, .int 0, .int 0, .ref a16, .ref a17, .int 0, .int 0, .int 0, .int 0, .int 0, .ref a18, .int 0, .int 0, .int 0])), (a1, .inl (cB, 800, .inl f4))] := hD
  refine W.cs (cells' := 0) (slots' := 0) rfl rfl ?_
  refine lv_aload_n hx hb dX10_feed_41 rfl (lv_at hl 0 rfl) ?_
  refine lv_iload hx hb dX10_feed_42 (lv_at hl 5 rfl) ?_
  refine cvV (n := 1) (As := [.int x4]) (rest := []) (wr := []) ⟨hx, hb, hml, hown, hts⟩ uc_in (kX10_four_4 l D cB cI cJ cZ cT cR a0 a1 a2 a3 a4 a5 a6 a7 a8 a9 a10 a11 a12 a13 a14 a15 a16 a17 a18 x4 f4 H.size) q_m1342 q_n1344 q_p51 q_i11 q_c1345 (by decide +kernel) ⟨(Nat.le_of_ble_eq_true rfl), (Nat.le_of_ble_eq_true rfl)⟩ ⟨(Nat.le_of_ble_eq_true rfl), (Nat.le_of_ble_eq_true rfl)⟩ hE hK hP hD hS hA [0, 1] [] rfl rfl rfl rfl (by decide) 10 0 rfl rfl rfl hl.1 rfl (Nat.le_of_ble_eq_true rfl) dX10_feed_44 (fun u H locs hpo hP hD hS => ?_)
  obtain ⟨f5, rfl⟩ : ∃ z9, z9 = u := ⟨_, rfl⟩
  have hP : va_P D vwCl [(a0, .inr (10, [.int 0, .ref a2, .ref a3, .ref a4, .ref a5, .ref a1, .int 20, .int 0, .int 0, .int 0, .int 0, .long 0, .int 0, .int 0, .int 0, .int (-1), .ref a6, .ref a7, .ref a8, .ref a9, .ref a10, .ref a11, .ref a12, .ref a13, .int 0, .int 0, .ref a14, .ref a15, .int 0, .int 0, .int 0, .ref a16, .ref a17, .int 0, .int 0, .int 0, .int 0, .int 0, .ref a18, .int 0, .int 0, .int 0])), (a1, .inl (cB, 800, .inl f5))] H := hP
  have hD : va_D AA [(a0, .inr (10, [.int 0, .ref a2, .ref a3, .ref a4, .ref a5, .ref a1, .int 20, .int 0, .int 0, .int 0, .int 0, .long 0, .int 0, .int 0, .int 0, .int (-1), .ref a6, .ref a7, .ref a8, .ref a9, .ref a10, .ref a11, .ref a12, .ref a13, .int 0, .int 0, .ref a14, .ref a15, .int 0, .int 0, .int 0, .ref a16, .ref a17, .int 0, .int 0, .int 0, .int 0, .int 0, .ref a18, .int 0, .int 0, .int 0])), (a1, .inl (cB, 800, .inl f5))] := hD
  refine W.cs (cells' := 0) (slots' := 0) rfl rfl ?_
  refine lv_aload_n hx hb dX10_feed_47 rfl (lv_at hl 0 rfl) ?_
  refine va_get (D := D) (ci := 10) (v := .int 20) (C := RX10) (T := TX10) (N := 42) hx hb hts (fun w h => uc_in w (inX10 w h)) hown hK hP 0 rfl rfl 6 (by decide) (hts _ (uc_in _ q_f1194)) (fun _ h9 => h9) rfl dX10_feed_48 ?_
  subst hAe
  have hP9 := hP.sub (ws' := [(a0, .inr (10, [.int 0, .ref a2, .ref a3, .ref a4, .ref a5, .ref a1, .int 20, .int 0, .int 0, .int 0, .int 0, .long 0, .int 0, .int 0, .int 0, .int (-1), .ref a6, .ref a7, .ref a8, .ref a9, .ref a10, .ref a11, .ref a12, .ref a13, .int 0, .int 0, .ref a14, .ref a15, .int 0, .int 0, .int 0, .ref a16, .ref a17, .int 0, .int 0, .int 0, .int 0, .int 0, .ref a18, .int 0, .int 0, .int 0])), (a1, .inl (cB, 800, .inl f5))]) [0, 1] rfl
  have hD9 := hD.sub (ws' := [(a0, .inr (10, [.int 0, .ref a2, .ref a3, .ref a4, .ref a5, .ref a1, .int 20, .int 0, .int 0, .int 0, .int 0, .long 0, .int 0, .int 0, .int 0, .int (-1), .ref a6, .ref a7, .ref a8, .ref a9, .ref a10, .ref a11, .ref a12, .ref a13, .int 0, .int 0, .ref a14, .ref a15, .int 0, .int 0, .int 0, .ref a16, .ref a17, .int 0, .int 0, .int 0, .int 0, .int 0, .ref a18, .int 0, .int 0, .int 0])), (a1, .inl (cB, 800, .inl f5))]) [0, 1] rfl rfl
  exact W.iret hx hb hr (fun t ht hW => ⟨⟨20, f5, rfl, rfl, by rw [ht]; exact hP9, va_K.moved hW.alike hK, hD9⟩, hS.F ht⟩) hS.2.2 dX10_feed_51
set_option maxHeartbeats 4000000 in
set_option maxRecDepth 100000 in
theorem law_case_0 {p : Program} {l : Launch} {e : Env} {s : State} {m : MethodId} {below : List Frame} {meth : Method} {c : Code} {D : va_G} {cB cI cJ cZ cT cR : ClassId} {b : Nat} {xs : Nat → Int32} {A B : Nat → Nat} {H : Heap} {locs : List Loc} {ls : Array Slot} (C0 : lw_At p s m meth c b 6 xs) (hE : EX s) (hK : va_K D vwCl [(cB, .byte), (cI, .int), (cJ, .long), (cZ, .boolean), (cT, .object RX7), (cR, .object RX3)] s) (hP : va_P D vwCl (fwAll cB cI cJ cZ cT cR A B) H) (hD : va_D (fun q : Nat => s.heap.size ≤ q) (fwAll cB cI cJ cZ cT cR A B)) (hS : va_S (fun q : Nat => s.heap.size ≤ q) s.heap H locs) (hl : lv_has ls 4 [(3, .int 0), (2, .ref (B 0)), (1, .ref (A 0)), (0, .ref b)]) : W p l e room_1 s m #[Value.ref b] below meth c H locs 180 4779 (lw_Z below #[Value.ref b] s) (F0 m 336 ls []) := by
  obtain ⟨hx, hb, hr, hml, hown, hts, hX, hbl, hlocks, hgv⟩ := id C0
  have hown : s.vm.findClass RL = some m.cls := hown
  have hb : c.code = cL_law := hb
  have hA : ∀ q : Nat, s.heap.size ≤ q → (fun q : Nat => s.heap.size ≤ q) q := fun _ h => h
  have hbA : ¬ (fun q : Nat => s.heap.size ≤ q) b := Nat.not_le.mpr hbl
  have hP := hP.sub (ws' := [((A 0), .inr (9, [.ref (A 1), .ref (A 3), .ref (A 12), .ref (A 21), .int 0, .ref (A 49), .ref (A 51), .ref (A 60), .ref (A 61), .ref (A 62), .ref (A 63), .ref (A 64)])), ((A 1), .inr (6, [.ref (A 2), .int 0, .int 0, .int (-1), .int 0, .int 0, .int 0, .int 0])), ((A 2), .inl (cB, 800, .inl (fun _ => 0))), ((B 0), .inr (10, [.int 0, .ref (B 1), .ref (B 2), .ref (B 3), .ref (B 4), .ref (B 5), .int 0, .int 0, .int 0, .int 0, .int 0, .long 0, .int 0, .int 0, .int 0, .int (-1), .ref (B 6), .ref (B 7), .ref (B 8), .ref (B 9), .ref (B 10), .ref (B 11), .ref (B 12), .ref (B 13), .int 0, .int 0, .ref (B 14), .ref (B 15), .int 0, .int 0, .int 0, .ref (B 16), .ref (B 17), .int 0, .int 0, .int 0, .int 0, .int 0, .ref (B 18), .int 0, .int 0, .int 0])), ((B 5), .inl (cB, 800, .inl (fun _ => 0)))]) [0, 1, 2, 60, 65] rfl
  have hD := hD.sub (ws' := [((A 0), .inr (9, [.ref (A 1), .ref (A 3), .ref (A 12), .ref (A 21), .int 0, .ref (A 49), .ref (A 51), .ref (A 60), .ref (A 61), .ref (A 62), .ref (A 63), .ref (A 64)])), ((A 1), .inr (6, [.ref (A 2), .int 0, .int 0, .int (-1), .int 0, .int 0, .int 0, .int 0])), ((A 2), .inl (cB, 800, .inl (fun _ => 0))), ((B 0), .inr (10, [.int 0, .ref (B 1), .ref (B 2), .ref (B 3), .ref (B 4), .ref (B 5), .int 0, .int 0, .int 0, .int 0, .int 0, .long 0, .int 0, .int 0, .int 0, .int (-1), .ref (B 6), .ref (B 7), .ref (B 8), .ref (B 9), .ref (B 10), .ref (B 11), .ref (B 12), .ref (B 13), .int 0, .int 0, .ref (B 14), .ref (B 15), .int 0, .int 0, .int 0, .ref (B 16), .ref (B 17), .int 0, .int 0, .int 0, .int 0, .int 0, .ref (B 18), .int 0, .int 0, .int 0])), ((B 5), .inl (cB, 800, .inl (fun _ => 0)))]) [0, 1, 2, 60, 65] rfl rfl
  refine lv_aload_n hx hb dL_law_336 rfl (lv_at hl 2 rfl) ?_
  refine lv_aload_n hx hb dL_law_337 rfl (lv_at hl 3 rfl) ?_
  refine lv_iload_n hx hb dL_law_338 rfl (lv_at hl 0 rfl) ?_
  refine lv_iconst (v := 1) hx hb dL_law_339 (by decide) ?_
  refine lv_iadd hx hb dL_law_340 ?_
  refine pv_i (v := 1) (by decide) ?_
  refine va_sld hx hb hX hbl hbA hS (vp_in_iff.mpr ⟨by decide, by decide⟩) dL_law_341 ?_
  refine lv_topi (fun p1 ep1 => ?_)
  refine lv_aload_n hx hb dL_law_342 rfl (lv_at hl 3 rfl) ?_
  refine lv_iload_n hx hb dL_law_343 rfl (lv_at hl 0 rfl) ?_
  refine lv_iconst (v := 2) hx hb dL_law_344 (by decide) ?_
  refine lv_iadd hx hb dL_law_345 ?_
  refine pv_i (v := 2) (by decide) ?_
  refine va_sld hx hb hX hbl hbA hS (vp_in_iff.mpr ⟨by decide, by decide⟩) dL_law_346 ?_
  refine lv_topi (fun p2 ep2 => ?_)
  refine lv_aload_n hx hb dL_law_347 rfl (lv_at hl 3 rfl) ?_
  refine lv_iload_n hx hb dL_law_348 rfl (lv_at hl 0 rfl) ?_
  refine lv_iconst (v := 3) hx hb dL_law_349 (by decide) ?_
  refine lv_iadd hx hb dL_law_350 ?_
  refine pv_i (v := 3) (by decide) ?_
  refine va_sld hx hb hX hbl hbA hS (vp_in_iff.mpr ⟨by decide, by decide⟩) dL_law_351 ?_
  refine lv_topi (fun p3 ep3 => ?_)
  refine lv_aload_n hx hb dL_law_352 rfl (lv_at hl 3 rfl) ?_
  refine lv_iload_n hx hb dL_law_353 rfl (lv_at hl 0 rfl) ?_
  refine lv_iconst (v := 4) hx hb dL_law_354 (by decide) ?_
  refine lv_iadd hx hb dL_law_355 ?_
  refine pv_i (v := 4) (by decide) ?_
  refine va_sld hx hb hX hbl hbA hS (vp_in_iff.mpr ⟨by decide, by decide⟩) dL_law_356 ?_
  refine lv_topi (fun p4 ep4 => ?_)
  refine lv_aload_n hx hb dL_law_357 rfl (lv_at hl 3 rfl) ?_
  refine lv_iload_n hx hb dL_law_358 rfl (lv_at hl 0 rfl) ?_
  refine lv_iconst (v := 5) hx hb dL_law_359 (by decide) ?_
  refine lv_iadd hx hb dL_law_360 ?_
  refine pv_i (v := 5) (by decide) ?_
  refine va_sld hx hb hX hbl hbA hS (vp_in_iff.mpr ⟨by decide, by decide⟩) dL_law_361 ?_
  refine lv_topi (fun p5 ep5 => ?_)
  refine cvM (n := 5) (As := [.int p1, .int p2, .int p3, .int p4, .int p5]) (rest := []) (wr := [((B 0), .inr (10, [.int 0, .ref (B 1), .ref (B 2), .ref (B 3), .ref (B 4), .ref (B 5), .int 0, .int 0, .int 0, .int 0, .int 0, .long 0, .int 0, .int 0, .int 0, .int (-1), .ref (B 6), .ref (B 7), .ref (B 8), .ref (B 9), .ref (B 10), .ref (B 11), .ref (B 12), .ref (B 13), .int 0, .int 0, .ref (B 14), .ref (B 15), .int 0, .int 0, .int 0, .ref (B 16), .ref (B 17), .int 0, .int 0, .int 0, .int 0, .int 0, .ref (B 18), .int 0, .int 0, .int 0])), ((B 5), .inl (cB, 800, .inl (fun _ => 0)))]) ⟨hx, hb, hml, hown, hts⟩ (fun _ h => uw_in h) (kX9_feed_0 l D cB cI cJ cZ cT cR (A 0) (A 1) (A 2) (A 3) (A 12) (A 21) (A 49) (A 51) (A 60) (A 61) (A 62) (A 63) (A 64) p1 p2 p3 p4 p5 H.size) q_m420 q_n421 q_e422 q_i1 q_c423 (by decide +kernel) ⟨(Nat.le_of_ble_eq_true rfl), (Nat.le_of_ble_eq_true rfl)⟩ ⟨(Nat.le_of_ble_eq_true rfl), (Nat.le_of_ble_eq_true rfl)⟩ hE hK hP hD hS hA [0, 1, 2] [3, 4] rfl rfl rfl rfl (by decide) 9 0 rfl rfl rfl hl.1 rfl (Nat.le_of_ble_eq_true rfl) dL_law_362 (fun r9 u H locs hpo hP hD hS => ?_)
  obtain ⟨f1, rfl⟩ : ∃ z9, z9 = u := ⟨_, rfl⟩
  have hP : va_P D vwCl [((B 0), .inr (10, [.int 0, .ref (B 1), .ref (B 2), .ref (B 3), .ref (B 4), .ref (B 5), .int 0, .int 0, .int 0, .int 0, .int 0, .long 0, .int 0, .int 0, .int 0, .int (-1), .ref (B 6), .ref (B 7), .ref (B 8), .ref (B 9), .ref (B 10), .ref (B 11), .ref (B 12), .ref (B 13), .int 0, .int 0, .ref (B 14), .ref (B 15), .int 0, .int 0, .int 0, .ref (B 16), .ref (B 17), .int 0, .int 0, .int 0, .int 0, .int 0, .ref (B 18), .int 0, .int 0, .int 0])), ((B 5), .inl (cB, 800, .inl (fun _ => 0))), ((A 0), .inr (9, [.ref (A 1), .ref (A 3), .ref (A 12), .ref (A 21), .int 0, .ref (A 49), .ref (A 51), .ref (A 60), .ref (A 61), .ref (A 62), .ref (A 63), .ref (A 64)])), ((A 1), .inr (6, [.ref (A 2), .int 20, .int 0, .int (-1), .int 0, .int 0, .int 0, .int 0])), ((A 2), .inl (cB, 800, .inl f1))] H := hP
  have hD : va_D (fun q : Nat => s.heap.size ≤ q) [((B 0), .inr (10, [.int 0, .ref (B 1), .ref (B 2), .ref (B 3), .ref (B 4), .ref (B 5), .int 0, .int 0, .int 0, .int 0, .int 0, .long 0, .int 0, .int 0, .int 0, .int (-1), .ref (B 6), .ref (B 7), .ref (B 8), .ref (B 9), .ref (B 10), .ref (B 11), .ref (B 12), .ref (B 13), .int 0, .int 0, .ref (B 14), .ref (B 15), .int 0, .int 0, .int 0, .ref (B 16), .ref (B 17), .int 0, .int 0, .int 0, .int 0, .int 0, .ref (B 18), .int 0, .int 0, .int 0])), ((B 5), .inl (cB, 800, .inl (fun _ => 0))), ((A 0), .inr (9, [.ref (A 1), .ref (A 3), .ref (A 12), .ref (A 21), .int 0, .ref (A 49), .ref (A 51), .ref (A 60), .ref (A 61), .ref (A 62), .ref (A 63), .ref (A 64)])), ((A 1), .inr (6, [.ref (A 2), .int 20, .int 0, .int (-1), .int 0, .int 0, .int 0, .int 0])), ((A 2), .inl (cB, 800, .inl f1))] := hD
  refine W.cs (cells' := 180) (slots' := 4779) rfl rfl ?_
  have hpo : r9 = 20 := hpo
  subst hpo
  refine lv_aload_n hx hb dL_law_365 rfl (lv_at hl 1 rfl) ?_
  refine lv_aload_n hx hb dL_law_366 rfl (lv_at hl 3 rfl) ?_
  refine lv_iload_n hx hb dL_law_367 rfl (lv_at hl 0 rfl) ?_
  refine lv_iconst (v := 1) hx hb dL_law_368 (by decide) ?_
  refine lv_iadd hx hb dL_law_369 ?_
  refine pv_i (v := 1) (by decide) ?_
  refine va_sld hx hb hX hbl hbA hS (vp_in_iff.mpr ⟨by decide, by decide⟩) dL_law_370 ?_
  refine pv_i (v := p1) ep1.symm ?_
  refine lv_aload_n hx hb dL_law_371 rfl (lv_at hl 3 rfl) ?_
  refine lv_iload_n hx hb dL_law_372 rfl (lv_at hl 0 rfl) ?_
  refine lv_iconst (v := 2) hx hb dL_law_373 (by decide) ?_
  refine lv_iadd hx hb dL_law_374 ?_
  refine pv_i (v := 2) (by decide) ?_
  refine va_sld hx hb hX hbl hbA hS (vp_in_iff.mpr ⟨by decide, by decide⟩) dL_law_375 ?_
  refine pv_i (v := p2) ep2.symm ?_
  refine lv_aload_n hx hb dL_law_376 rfl (lv_at hl 3 rfl) ?_
  refine lv_iload_n hx hb dL_law_377 rfl (lv_at hl 0 rfl) ?_
  refine lv_iconst (v := 3) hx hb dL_law_378 (by decide) ?_
  refine lv_iadd hx hb dL_law_379 ?_
  refine pv_i (v := 3) (by decide) ?_
  refine va_sld hx hb hX hbl hbA hS (vp_in_iff.mpr ⟨by decide, by decide⟩) dL_law_380 ?_
  refine pv_i (v := p3) ep3.symm ?_
  refine lv_aload_n hx hb dL_law_381 rfl (lv_at hl 3 rfl) ?_
  refine lv_iload_n hx hb dL_law_382 rfl (lv_at hl 0 rfl) ?_
  refine lv_iconst (v := 4) hx hb dL_law_383 (by decide) ?_
  refine lv_iadd hx hb dL_law_384 ?_
  refine pv_i (v := 4) (by decide) ?_
  refine va_sld hx hb hX hbl hbA hS (vp_in_iff.mpr ⟨by decide, by decide⟩) dL_law_385 ?_
  refine pv_i (v := p4) ep4.symm ?_
  refine lv_aload_n hx hb dL_law_386 rfl (lv_at hl 3 rfl) ?_
  refine lv_iload_n hx hb dL_law_387 rfl (lv_at hl 0 rfl) ?_
  refine lv_iconst (v := 5) hx hb dL_law_388 (by decide) ?_
  refine lv_iadd hx hb dL_law_389 ?_
  refine pv_i (v := 5) (by decide) ?_
  refine va_sld hx hb hX hbl hbA hS (vp_in_iff.mpr ⟨by decide, by decide⟩) dL_law_390 ?_
  refine pv_i (v := p5) ep5.symm ?_
  refine cvM (n := 5) (As := [.int p1, .int p2, .int p3, .int p4, .int p5]) (rest := [.int 20]) (wr := [((A 0), .inr (9, [.ref (A 1), .ref (A 3), .ref (A 12), .ref (A 21), .int 0, .ref (A 49), .ref (A 51), .ref (A 60), .ref (A 61), .ref (A 62), .ref (A 63), .ref (A 64)])), ((A 1), .inr (6, [.ref (A 2), .int 20, .int 0, .int (-1), .int 0, .int 0, .int 0, .int 0])), ((A 2), .inl (cB, 800, .inl f1))]) ⟨hx, hb, hml, hown, hts⟩ (fun _ h => uw_in h) (kX10_feed_0 l D cB cI cJ cZ cT cR (B 0) (B 5) (B 1) (B 2) (B 3) (B 4) (B 6) (B 7) (B 8) (B 9) (B 10) (B 11) (B 12) (B 13) (B 14) (B 15) (B 16) (B 17) (B 18) p1 p2 p3 p4 p5 H.size) q_m1338 q_n1339 q_e1340 q_i11 q_c1341 (by decide +kernel) ⟨(Nat.le_of_ble_eq_true rfl), (Nat.le_of_ble_eq_true rfl)⟩ ⟨(Nat.le_of_ble_eq_true rfl), (Nat.le_of_ble_eq_true rfl)⟩ hE hK hP hD hS hA [0, 1] [2, 3, 4] rfl rfl rfl rfl (by decide) 10 0 rfl rfl rfl hl.1 rfl (Nat.le_of_ble_eq_true rfl) dL_law_391 (fun r9 u H locs hpo hP hD hS => ?_)
  obtain ⟨f2, rfl⟩ : ∃ z9, z9 = u := ⟨_, rfl⟩
  have hP : va_P D vwCl [((A 0), .inr (9, [.ref (A 1), .ref (A 3), .ref (A 12), .ref (A 21), .int 0, .ref (A 49), .ref (A 51), .ref (A 60), .ref (A 61), .ref (A 62), .ref (A 63), .ref (A 64)])), ((A 1), .inr (6, [.ref (A 2), .int 20, .int 0, .int (-1), .int 0, .int 0, .int 0, .int 0])), ((A 2), .inl (cB, 800, .inl f1)), ((B 0), .inr (10, [.int 0, .ref (B 1), .ref (B 2), .ref (B 3), .ref (B 4), .ref (B 5), .int 20, .int 0, .int 0, .int 0, .int 0, .long 0, .int 0, .int 0, .int 0, .int (-1), .ref (B 6), .ref (B 7), .ref (B 8), .ref (B 9), .ref (B 10), .ref (B 11), .ref (B 12), .ref (B 13), .int 0, .int 0, .ref (B 14), .ref (B 15), .int 0, .int 0, .int 0, .ref (B 16), .ref (B 17), .int 0, .int 0, .int 0, .int 0, .int 0, .ref (B 18), .int 0, .int 0, .int 0])), ((B 5), .inl (cB, 800, .inl f2))] H := hP
  have hD : va_D (fun q : Nat => s.heap.size ≤ q) [((A 0), .inr (9, [.ref (A 1), .ref (A 3), .ref (A 12), .ref (A 21), .int 0, .ref (A 49), .ref (A 51), .ref (A 60), .ref (A 61), .ref (A 62), .ref (A 63), .ref (A 64)])), ((A 1), .inr (6, [.ref (A 2), .int 20, .int 0, .int (-1), .int 0, .int 0, .int 0, .int 0])), ((A 2), .inl (cB, 800, .inl f1)), ((B 0), .inr (10, [.int 0, .ref (B 1), .ref (B 2), .ref (B 3), .ref (B 4), .ref (B 5), .int 20, .int 0, .int 0, .int 0, .int 0, .long 0, .int 0, .int 0, .int 0, .int (-1), .ref (B 6), .ref (B 7), .ref (B 8), .ref (B 9), .ref (B 10), .ref (B 11), .ref (B 12), .ref (B 13), .int 0, .int 0, .ref (B 14), .ref (B 15), .int 0, .int 0, .int 0, .ref (B 16), .ref (B 17), .int 0, .int 0, .int 0, .int 0, .int 0, .ref (B 18), .int 0, .int 0, .int 0])), ((B 5), .inl (cB, 800, .inl f2))] := hD
  refine W.cs (cells' := 180) (slots' := 4779) rfl rfl ?_
  have hpo : r9 = 20 := hpo
  subst hpo
  refine lv_icmp_eq (tgt := 2362) hx hb dL_law_394 (by decide) (fun _ => ?_) (fun c9 => absurd (by decide) c9)
  exact law_end C0 hS (Nat.le_of_ble_eq_true rfl) (Nat.le_of_ble_eq_true rfl) ls hl
set_option maxHeartbeats 4000000 in
set_option maxRecDepth 100000 in
theorem kX9_end_0 (l : Launch) (D : va_G) (cB cI cJ cZ cT cR : ClassId) (a0 a1 a2 a3 a4 a5 a6 a7 a8 a9 a10 a11 : Nat) (x0 : Int32) (hy0 : x0 < 0) : Met l yX9_end (uc yX9_end cX9_end 2 (some .int)) (rmL 1 0 0) (va_Pc [.ref a0, .int x0] (RPre D [(cB, .byte), (cI, .int), (cJ, .long), (cZ, .boolean), (cT, .object RX7), (cR, .object RX3)] [(a0, .inr (9, [.ref a1, .ref a2, .ref a3, .ref a4, .int 0, .ref a5, .ref a6, .ref a7, .ref a8, .ref a9, .ref a10, .ref a11]))])) (QcRead (-1)) 0 0 (fun _ => False) := by
  refine pm (by decide) (Nat.le_of_ble_eq_true rfl) ?_
  intro p e s m below meth c ls hx hb hr hml hown hlk hnm hts hv hl
  have hown : s.vm.findClass RX9 = some m.cls := hown
  have hl : lv_has ls 2 [(0, .ref a0), (1, .int x0)] := hl
  obtain ⟨hP, hK⟩ := hv
  refine lv_iload_n hx hb dX9_end_0 rfl (lv_at hl 1 rfl) ?_
  refine lv_if_lt (tgt := 15) hx hb dX9_end_1 (by decide) (fun _ => ?_) (fun c9 => absurd hy0 c9)
  refine lv_iconst (v := (-1)) hx hb dX9_end_15 (by decide) ?_
  exact W.iret hx hb hr (fun t ht _ => ⟨rfl, ht⟩) (fun _ h => by cases h) dX9_end_16
set_option maxHeartbeats 4000000 in
set_option maxRecDepth 100000 in
theorem kX10_end_0 (l : Launch) (D : va_G) (cB cI cJ cZ cT cR : ClassId) (a0 a1 a2 a3 a4 a5 a6 a7 a8 a9 a10 a11 a12 a13 a14 a15 a16 a17 a18 : Nat) (x0 : Int32) (hy0 : x0 < 0) (sz : Nat) : Met l yX10_end (uc yX10_end cX10_end 2 (some .int)) (rmL 2 0 0) (va_Pc [.ref a0, .int x0] (MPre D [(cB, .byte), (cI, .int), (cJ, .long), (cZ, .boolean), (cT, .object RX7), (cR, .object RX3)] [(a0, .inr (10, [.int 0, .ref a1, .ref a2, .ref a3, .ref a4, .ref a5, .int 0, .int 0, .int 0, .int 0, .int 0, .long 0, .int 0, .int 0, .int 0, .int (-1), .ref a6, .ref a7, .ref a8, .ref a9, .ref a10, .ref a11, .ref a12, .ref a13, .int 0, .int 0, .ref a14, .ref a15, .int 0, .int 0, .int 0, .ref a16, .ref a17, .int 0, .int 0, .int 0, .int 0, .int 0, .ref a18, .int 0, .int 0, .int 0]))] sz)) (va_Qi (fun (r : Int32) (_ : Unit) => r = (-1)) (MB D [(cB, .byte), (cI, .int), (cJ, .long), (cZ, .boolean), (cT, .object RX7), (cR, .object RX3)] [(a0, .inr (10, [.int 0, .ref a1, .ref a2, .ref a3, .ref a4, .ref a5, .int 0, .int 0, .int 0, .int 0, .int 0, .long 0, .int 0, .int 0, .int 0, .int (-1), .ref a6, .ref a7, .ref a8, .ref a9, .ref a10, .ref a11, .ref a12, .ref a13, .int 0, .int 0, .ref a14, .ref a15, .int 0, .int 0, .int 0, .ref a16, .ref a17, .int 0, .int 0, .int 0, .int 0, .int 0, .ref a18, .int 0, .int 0, .int 0]))] sz (fun (u : Unit) => [(a0, .inr (10, [.int 0, .ref a1, .ref a2, .ref a3, .ref a4, .ref a5, .int 0, .int 0, .int 0, .int 0, .int 0, .long 0, .int 0, .int 0, .int 0, .int (-1), .ref a6, .ref a7, .ref a8, .ref a9, .ref a10, .ref a11, .ref a12, .ref a13, .int 0, .int 0, .ref a14, .ref a15, .int 0, .int 0, .int 0, .ref a16, .ref a17, .int 0, .int 0, .int 0, .int 0, .int 0, .ref a18, .int 0, .int 0, .int 0]))])) (va_A [(a0, .inr (10, [.int 0, .ref a1, .ref a2, .ref a3, .ref a4, .ref a5, .int 0, .int 0, .int 0, .int 0, .int 0, .long 0, .int 0, .int 0, .int 0, .int (-1), .ref a6, .ref a7, .ref a8, .ref a9, .ref a10, .ref a11, .ref a12, .ref a13, .int 0, .int 0, .ref a14, .ref a15, .int 0, .int 0, .int 0, .ref a16, .ref a17, .int 0, .int 0, .int 0, .int 0, .int 0, .ref a18, .int 0, .int 0, .int 0]))] sz)) 0 0 (va_A [(a0, .inr (10, [.int 0, .ref a1, .ref a2, .ref a3, .ref a4, .ref a5, .int 0, .int 0, .int 0, .int 0, .int 0, .long 0, .int 0, .int 0, .int 0, .int (-1), .ref a6, .ref a7, .ref a8, .ref a9, .ref a10, .ref a11, .ref a12, .ref a13, .int 0, .int 0, .ref a14, .ref a15, .int 0, .int 0, .int 0, .ref a16, .ref a17, .int 0, .int 0, .int 0, .int 0, .int 0, .ref a18, .int 0, .int 0, .int 0]))] sz) := by
  refine pm (by decide) (Nat.le_of_ble_eq_true rfl) ?_
  intro p e s m below meth c ls hx hb hr hml hown hlk hnm hts hv hl
  have hown : s.vm.findClass RX10 = some m.cls := hown
  have hl : lv_has ls 2 [(0, .ref a0), (1, .int x0)] := hl
  obtain ⟨hsz, hP, hK, hD0, hE⟩ := hv
  subst hsz
  have hD := hD0.self (sz := s.heap.size)
  obtain ⟨AA, hAe⟩ : ∃ AA, AA = va_A [(a0, .inr (10, [.int 0, .ref a1, .ref a2, .ref a3, .ref a4, .ref a5, .int 0, .int 0, .int 0, .int 0, .int 0, .long 0, .int 0, .int 0, .int 0, .int (-1), .ref a6, .ref a7, .ref a8, .ref a9, .ref a10, .ref a11, .ref a12, .ref a13, .int 0, .int 0, .ref a14, .ref a15, .int 0, .int 0, .int 0, .ref a16, .ref a17, .int 0, .int 0, .int 0, .int 0, .int 0, .ref a18, .int 0, .int 0, .int 0]))] s.heap.size := ⟨_, rfl⟩
  rw [← hAe] at hD
  have hA : ∀ q : Nat, s.heap.size ≤ q → AA q := fun q h => by rw [hAe]; exact Or.inr h
  have hS : va_S AA s.heap s.heap [] := va_S.rf
  obtain ⟨-, hAOT, hAOR, hAOI⟩ := id hE
  refine lv_aload_n hx hb dX10_end_0 rfl (lv_at hl 0 rfl) ?_
  refine lv_iconst (v := 0) hx hb dX10_end_1 (by decide) ?_
  refine va_put (D := D) (ci := 10) (v := .int 0) (ty := .int) (C := RX10) (T := TX10) (N := 42) hx hb hts (fun w h => uc_in w (inX10 w h)) tyX10 tyX10_ok nmX10 hown hK hP hD hS 0 rfl rfl 0 (by decide) (hts _ (uc_in _ q_f1188)) (fun _ h9 => h9) rfl (by decide +kernel) rfl rfl (Nat.le_of_ble_eq_true rfl) dX10_end_2 (fun H locs hP hD hS => ?_)
  have hP : va_P D vwCl [(a0, .inr (10, [.int 0, .ref a1, .ref a2, .ref a3, .ref a4, .ref a5, .int 0, .int 0, .int 0, .int 0, .int 0, .long 0, .int 0, .int 0, .int 0, .int (-1), .ref a6, .ref a7, .ref a8, .ref a9, .ref a10, .ref a11, .ref a12, .ref a13, .int 0, .int 0, .ref a14, .ref a15, .int 0, .int 0, .int 0, .ref a16, .ref a17, .int 0, .int 0, .int 0, .int 0, .int 0, .ref a18, .int 0, .int 0, .int 0]))] H := hP
  have hD : va_D AA [(a0, .inr (10, [.int 0, .ref a1, .ref a2, .ref a3, .ref a4, .ref a5, .int 0, .int 0, .int 0, .int 0, .int 0, .long 0, .int 0, .int 0, .int 0, .int (-1), .ref a6, .ref a7, .ref a8, .ref a9, .ref a10, .ref a11, .ref a12, .ref a13, .int 0, .int 0, .ref a14, .ref a15, .int 0, .int 0, .int 0, .ref a16, .ref a17, .int 0, .int 0, .int 0, .int 0, .int 0, .ref a18, .int 0, .int 0, .int 0]))] := hD
  refine lv_iload_n hx hb dX10_end_5 rfl (lv_at hl 1 rfl) ?_
  refine lv_i2l (v := x0.toInt64) hx hb dX10_end_6 rfl ?_
  refine lv_lconst (v := 0) hx hb dX10_end_7 (by decide) ?_
  refine lv_aload_n hx hb dX10_end_8 rfl (lv_at hl 0 rfl) ?_
  refine va_get (D := D) (ci := 10) (v := .int 0) (C := RX10) (T := TX10) (N := 42) hx hb hts (fun w h => uc_in w (inX10 w h)) hown hK hP 0 rfl rfl 6 (by decide) (hts _ (uc_in _ q_f1194)) (fun _ h9 => h9) rfl dX10_end_9 ?_
  refine lv_i2l (v := 0) hx hb dX10_end_12 (by decide) ?_
  refine csR (n := 3) (As := [.long x0.toInt64, .long 0, .long 0]) (rest := []) ⟨hx, hb, hml, hown, hts⟩ uc_in (k_in l D [(cB, .byte), (cI, .int), (cJ, .long), (cZ, .boolean), (cT, .object RX7), (cR, .object RX3)] x0.toInt64 0 0 0 (if_neg (fun q9 => (fun (q9 : 0 ≤ x0 ∧ x0 ≤ 0) => Int32.not_le.mpr hy0 q9.1) ((in64 (x := x0) (lo := 0) (hi := 0) (by decide) (by decide)).mp q9))).symm) q_m1324 q_s1325 q_i11 q_c1326 (by decide +kernel) ⟨(Nat.le_of_ble_eq_true rfl), (Nat.le_of_ble_eq_true rfl)⟩ ⟨(Nat.le_of_ble_eq_true rfl), (Nat.le_of_ble_eq_true rfl)⟩ hK (hP.sub (ws' := []) [] rfl) rfl hl.1 rfl (Nat.le_of_ble_eq_true rfl) dX10_end_13 ?_
  refine lv_if_ne (tgt := 21) hx hb dX10_end_16 (by decide) (fun c9 => absurd (by decide) c9) (fun _ => ?_)
  refine lv_iconst (v := (-1)) hx hb dX10_end_19 (by decide) ?_
  subst hAe
  have hP9 := hP.sub (ws' := [(a0, .inr (10, [.int 0, .ref a1, .ref a2, .ref a3, .ref a4, .ref a5, .int 0, .int 0, .int 0, .int 0, .int 0, .long 0, .int 0, .int 0, .int 0, .int (-1), .ref a6, .ref a7, .ref a8, .ref a9, .ref a10, .ref a11, .ref a12, .ref a13, .int 0, .int 0, .ref a14, .ref a15, .int 0, .int 0, .int 0, .ref a16, .ref a17, .int 0, .int 0, .int 0, .int 0, .int 0, .ref a18, .int 0, .int 0, .int 0]))]) [0] rfl
  have hD9 := hD.sub (ws' := [(a0, .inr (10, [.int 0, .ref a1, .ref a2, .ref a3, .ref a4, .ref a5, .int 0, .int 0, .int 0, .int 0, .int 0, .long 0, .int 0, .int 0, .int 0, .int (-1), .ref a6, .ref a7, .ref a8, .ref a9, .ref a10, .ref a11, .ref a12, .ref a13, .int 0, .int 0, .ref a14, .ref a15, .int 0, .int 0, .int 0, .ref a16, .ref a17, .int 0, .int 0, .int 0, .int 0, .int 0, .ref a18, .int 0, .int 0, .int 0]))]) [0] rfl rfl
  exact W.iret hx hb hr (fun t ht hW => ⟨⟨(-1), (), rfl, rfl, by rw [ht]; exact hP9, va_K.moved hW.alike hK, hD9⟩, hS.F ht⟩) hS.2.2 dX10_end_20
set_option maxHeartbeats 4000000 in
set_option maxRecDepth 100000 in
theorem kX9_end_1 (l : Launch) (D : va_G) (cB cI cJ cZ cT cR : ClassId) (a0 a1 a2 a3 a4 a5 a6 a7 a8 a9 a10 a11 a12 : Nat) (x0 : Int32) (hy0 : ¬ (x0 < 0)) (hy1 : 0 < x0) : Met l yX9_end (uc yX9_end cX9_end 2 (some .int)) (rmL 1 0 0) (va_Pc [.ref a0, .int x0] (RPre D [(cB, .byte), (cI, .int), (cJ, .long), (cZ, .boolean), (cT, .object RX7), (cR, .object RX3)] [(a0, .inr (9, [.ref a1, .ref a2, .ref a3, .ref a4, .int 0, .ref a5, .ref a6, .ref a7, .ref a8, .ref a9, .ref a10, .ref a11])), (a1, .inr (6, [.ref a12, .int 0, .int 0, .int (-1), .int 0, .int 0, .int 0, .int 0]))])) (QcRead (-1)) 0 0 (fun _ => False) := by
  refine pm (by decide) (Nat.le_of_ble_eq_true rfl) ?_
  intro p e s m below meth c ls hx hb hr hml hown hlk hnm hts hv hl
  have hown : s.vm.findClass RX9 = some m.cls := hown
  have hl : lv_has ls 2 [(0, .ref a0), (1, .int x0)] := hl
  obtain ⟨hP, hK⟩ := hv
  refine lv_iload_n hx hb dX9_end_0 rfl (lv_at hl 1 rfl) ?_
  refine lv_if_lt (tgt := 15) hx hb dX9_end_1 (by decide) (fun c9 => absurd c9 hy0) (fun _ => ?_)
  refine lv_iload_n hx hb dX9_end_4 rfl (lv_at hl 1 rfl) ?_
  refine lv_aload_n hx hb dX9_end_5 rfl (lv_at hl 0 rfl) ?_
  refine va_get (D := D) (ci := 9) (v := .ref a1) (C := RX9) (T := TX9) (N := 12) hx hb hts (fun w h => uc_in w (inX9 w h)) hown hK hP 0 rfl rfl 0 (by decide) (hts _ (uc_in _ q_f383)) (fun _ h9 => h9) rfl dX9_end_6 ?_
  refine va_get (D := D) (ci := 6) (v := .int 0) (C := RX6) (T := TX6) (N := 8) hx hb hts (fun w h => uc_in w (inX6 w h)) hown hK hP 1 rfl rfl 1 (by decide) (hts _ (uc_in _ q_f34)) (fun _ h9 => h9) rfl dX9_end_9 ?_
  refine lv_icmp_le (tgt := 17) hx hb dX9_end_12 (by decide) (fun c9 => absurd c9 (Int32.not_le.mpr hy1)) (fun _ => ?_)
  refine lv_iconst (v := (-1)) hx hb dX9_end_15 (by decide) ?_
  exact W.iret hx hb hr (fun t ht _ => ⟨rfl, ht⟩) (fun _ h => by cases h) dX9_end_16
set_option maxHeartbeats 4000000 in
set_option maxRecDepth 100000 in
theorem kX10_end_1 (l : Launch) (D : va_G) (cB cI cJ cZ cT cR : ClassId) (a0 a1 a2 a3 a4 a5 a6 a7 a8 a9 a10 a11 a12 a13 a14 a15 a16 a17 a18 : Nat) (x0 : Int32) (hy0 : 0 < x0) (sz : Nat) : Met l yX10_end (uc yX10_end cX10_end 2 (some .int)) (rmL 2 0 0) (va_Pc [.ref a0, .int x0] (MPre D [(cB, .byte), (cI, .int), (cJ, .long), (cZ, .boolean), (cT, .object RX7), (cR, .object RX3)] [(a0, .inr (10, [.int 0, .ref a1, .ref a2, .ref a3, .ref a4, .ref a5, .int 0, .int 0, .int 0, .int 0, .int 0, .long 0, .int 0, .int 0, .int 0, .int (-1), .ref a6, .ref a7, .ref a8, .ref a9, .ref a10, .ref a11, .ref a12, .ref a13, .int 0, .int 0, .ref a14, .ref a15, .int 0, .int 0, .int 0, .ref a16, .ref a17, .int 0, .int 0, .int 0, .int 0, .int 0, .ref a18, .int 0, .int 0, .int 0]))] sz)) (va_Qi (fun (r : Int32) (_ : Unit) => r = (-1)) (MB D [(cB, .byte), (cI, .int), (cJ, .long), (cZ, .boolean), (cT, .object RX7), (cR, .object RX3)] [(a0, .inr (10, [.int 0, .ref a1, .ref a2, .ref a3, .ref a4, .ref a5, .int 0, .int 0, .int 0, .int 0, .int 0, .long 0, .int 0, .int 0, .int 0, .int (-1), .ref a6, .ref a7, .ref a8, .ref a9, .ref a10, .ref a11, .ref a12, .ref a13, .int 0, .int 0, .ref a14, .ref a15, .int 0, .int 0, .int 0, .ref a16, .ref a17, .int 0, .int 0, .int 0, .int 0, .int 0, .ref a18, .int 0, .int 0, .int 0]))] sz (fun (u : Unit) => [(a0, .inr (10, [.int 0, .ref a1, .ref a2, .ref a3, .ref a4, .ref a5, .int 0, .int 0, .int 0, .int 0, .int 0, .long 0, .int 0, .int 0, .int 0, .int (-1), .ref a6, .ref a7, .ref a8, .ref a9, .ref a10, .ref a11, .ref a12, .ref a13, .int 0, .int 0, .ref a14, .ref a15, .int 0, .int 0, .int 0, .ref a16, .ref a17, .int 0, .int 0, .int 0, .int 0, .int 0, .ref a18, .int 0, .int 0, .int 0]))])) (va_A [(a0, .inr (10, [.int 0, .ref a1, .ref a2, .ref a3, .ref a4, .ref a5, .int 0, .int 0, .int 0, .int 0, .int 0, .long 0, .int 0, .int 0, .int 0, .int (-1), .ref a6, .ref a7, .ref a8, .ref a9, .ref a10, .ref a11, .ref a12, .ref a13, .int 0, .int 0, .ref a14, .ref a15, .int 0, .int 0, .int 0, .ref a16, .ref a17, .int 0, .int 0, .int 0, .int 0, .int 0, .ref a18, .int 0, .int 0, .int 0]))] sz)) 0 0 (va_A [(a0, .inr (10, [.int 0, .ref a1, .ref a2, .ref a3, .ref a4, .ref a5, .int 0, .int 0, .int 0, .int 0, .int 0, .long 0, .int 0, .int 0, .int 0, .int (-1), .ref a6, .ref a7, .ref a8, .ref a9, .ref a10, .ref a11, .ref a12, .ref a13, .int 0, .int 0, .ref a14, .ref a15, .int 0, .int 0, .int 0, .ref a16, .ref a17, .int 0, .int 0, .int 0, .int 0, .int 0, .ref a18, .int 0, .int 0, .int 0]))] sz) := by
  refine pm (by decide) (Nat.le_of_ble_eq_true rfl) ?_
  intro p e s m below meth c ls hx hb hr hml hown hlk hnm hts hv hl
  have hown : s.vm.findClass RX10 = some m.cls := hown
  have hl : lv_has ls 2 [(0, .ref a0), (1, .int x0)] := hl
  obtain ⟨hsz, hP, hK, hD0, hE⟩ := hv
  subst hsz
  have hD := hD0.self (sz := s.heap.size)
  obtain ⟨AA, hAe⟩ : ∃ AA, AA = va_A [(a0, .inr (10, [.int 0, .ref a1, .ref a2, .ref a3, .ref a4, .ref a5, .int 0, .int 0, .int 0, .int 0, .int 0, .long 0, .int 0, .int 0, .int 0, .int (-1), .ref a6, .ref a7, .ref a8, .ref a9, .ref a10, .ref a11, .ref a12, .ref a13, .int 0, .int 0, .ref a14, .ref a15, .int 0, .int 0, .int 0, .ref a16, .ref a17, .int 0, .int 0, .int 0, .int 0, .int 0, .ref a18, .int 0, .int 0, .int 0]))] s.heap.size := ⟨_, rfl⟩
  rw [← hAe] at hD
  have hA : ∀ q : Nat, s.heap.size ≤ q → AA q := fun q h => by rw [hAe]; exact Or.inr h
  have hS : va_S AA s.heap s.heap [] := va_S.rf
  obtain ⟨-, hAOT, hAOR, hAOI⟩ := id hE
  refine lv_aload_n hx hb dX10_end_0 rfl (lv_at hl 0 rfl) ?_
  refine lv_iconst (v := 0) hx hb dX10_end_1 (by decide) ?_
  refine va_put (D := D) (ci := 10) (v := .int 0) (ty := .int) (C := RX10) (T := TX10) (N := 42) hx hb hts (fun w h => uc_in w (inX10 w h)) tyX10 tyX10_ok nmX10 hown hK hP hD hS 0 rfl rfl 0 (by decide) (hts _ (uc_in _ q_f1188)) (fun _ h9 => h9) rfl (by decide +kernel) rfl rfl (Nat.le_of_ble_eq_true rfl) dX10_end_2 (fun H locs hP hD hS => ?_)
  have hP : va_P D vwCl [(a0, .inr (10, [.int 0, .ref a1, .ref a2, .ref a3, .ref a4, .ref a5, .int 0, .int 0, .int 0, .int 0, .int 0, .long 0, .int 0, .int 0, .int 0, .int (-1), .ref a6, .ref a7, .ref a8, .ref a9, .ref a10, .ref a11, .ref a12, .ref a13, .int 0, .int 0, .ref a14, .ref a15, .int 0, .int 0, .int 0, .ref a16, .ref a17, .int 0, .int 0, .int 0, .int 0, .int 0, .ref a18, .int 0, .int 0, .int 0]))] H := hP
  have hD : va_D AA [(a0, .inr (10, [.int 0, .ref a1, .ref a2, .ref a3, .ref a4, .ref a5, .int 0, .int 0, .int 0, .int 0, .int 0, .long 0, .int 0, .int 0, .int 0, .int (-1), .ref a6, .ref a7, .ref a8, .ref a9, .ref a10, .ref a11, .ref a12, .ref a13, .int 0, .int 0, .ref a14, .ref a15, .int 0, .int 0, .int 0, .ref a16, .ref a17, .int 0, .int 0, .int 0, .int 0, .int 0, .ref a18, .int 0, .int 0, .int 0]))] := hD
  refine lv_iload_n hx hb dX10_end_5 rfl (lv_at hl 1 rfl) ?_
  refine lv_i2l (v := x0.toInt64) hx hb dX10_end_6 rfl ?_
  refine lv_lconst (v := 0) hx hb dX10_end_7 (by decide) ?_
  refine lv_aload_n hx hb dX10_end_8 rfl (lv_at hl 0 rfl) ?_
  refine va_get (D := D) (ci := 10) (v := .int 0) (C := RX10) (T := TX10) (N := 42) hx hb hts (fun w h => uc_in w (inX10 w h)) hown hK hP 0 rfl rfl 6 (by decide) (hts _ (uc_in _ q_f1194)) (fun _ h9 => h9) rfl dX10_end_9 ?_
  refine lv_i2l (v := 0) hx hb dX10_end_12 (by decide) ?_
  refine csR (n := 3) (As := [.long x0.toInt64, .long 0, .long 0]) (rest := []) ⟨hx, hb, hml, hown, hts⟩ uc_in (k_in l D [(cB, .byte), (cI, .int), (cJ, .long), (cZ, .boolean), (cT, .object RX7), (cR, .object RX3)] x0.toInt64 0 0 0 (if_neg (fun q9 => (fun (q9 : 0 ≤ x0 ∧ x0 ≤ 0) => Int32.not_le.mpr hy0 q9.2) ((in64 (x := x0) (lo := 0) (hi := 0) (by decide) (by decide)).mp q9))).symm) q_m1324 q_s1325 q_i11 q_c1326 (by decide +kernel) ⟨(Nat.le_of_ble_eq_true rfl), (Nat.le_of_ble_eq_true rfl)⟩ ⟨(Nat.le_of_ble_eq_true rfl), (Nat.le_of_ble_eq_true rfl)⟩ hK (hP.sub (ws' := []) [] rfl) rfl hl.1 rfl (Nat.le_of_ble_eq_true rfl) dX10_end_13 ?_
  refine lv_if_ne (tgt := 21) hx hb dX10_end_16 (by decide) (fun c9 => absurd (by decide) c9) (fun _ => ?_)
  refine lv_iconst (v := (-1)) hx hb dX10_end_19 (by decide) ?_
  subst hAe
  have hP9 := hP.sub (ws' := [(a0, .inr (10, [.int 0, .ref a1, .ref a2, .ref a3, .ref a4, .ref a5, .int 0, .int 0, .int 0, .int 0, .int 0, .long 0, .int 0, .int 0, .int 0, .int (-1), .ref a6, .ref a7, .ref a8, .ref a9, .ref a10, .ref a11, .ref a12, .ref a13, .int 0, .int 0, .ref a14, .ref a15, .int 0, .int 0, .int 0, .ref a16, .ref a17, .int 0, .int 0, .int 0, .int 0, .int 0, .ref a18, .int 0, .int 0, .int 0]))]) [0] rfl
  have hD9 := hD.sub (ws' := [(a0, .inr (10, [.int 0, .ref a1, .ref a2, .ref a3, .ref a4, .ref a5, .int 0, .int 0, .int 0, .int 0, .int 0, .long 0, .int 0, .int 0, .int 0, .int (-1), .ref a6, .ref a7, .ref a8, .ref a9, .ref a10, .ref a11, .ref a12, .ref a13, .int 0, .int 0, .ref a14, .ref a15, .int 0, .int 0, .int 0, .ref a16, .ref a17, .int 0, .int 0, .int 0, .int 0, .int 0, .ref a18, .int 0, .int 0, .int 0]))]) [0] rfl rfl
  exact W.iret hx hb hr (fun t ht hW => ⟨⟨(-1), (), rfl, rfl, by rw [ht]; exact hP9, va_K.moved hW.alike hK, hD9⟩, hS.F ht⟩) hS.2.2 dX10_end_20
set_option maxHeartbeats 4000000 in
set_option maxRecDepth 100000 in
theorem kX9_end_2 (l : Launch) (D : va_G) (cB cI cJ cZ cT cR : ClassId) (a0 a1 a2 a3 a4 a5 a6 a7 a8 a9 a10 a11 a12 : Nat) (x0 : Int32) (hy0 : ¬ (x0 < 0)) (hy1 : ¬ (0 < x0)) (sz : Nat) : Met l yX9_end (uc yX9_end cX9_end 2 (some .int)) (rmL 1 0 0) (va_Pc [.ref a0, .int x0] (MPre D [(cB, .byte), (cI, .int), (cJ, .long), (cZ, .boolean), (cT, .object RX7), (cR, .object RX3)] [(a0, .inr (9, [.ref a1, .ref a2, .ref a3, .ref a4, .int 0, .ref a5, .ref a6, .ref a7, .ref a8, .ref a9, .ref a10, .ref a11])), (a1, .inr (6, [.ref a12, .int 0, .int 0, .int (-1), .int 0, .int 0, .int 0, .int 0]))] sz)) (va_Qi (fun (r : Int32) (_ : Unit) => r = x0) (MB D [(cB, .byte), (cI, .int), (cJ, .long), (cZ, .boolean), (cT, .object RX7), (cR, .object RX3)] [(a0, .inr (9, [.ref a1, .ref a2, .ref a3, .ref a4, .int 0, .ref a5, .ref a6, .ref a7, .ref a8, .ref a9, .ref a10, .ref a11])), (a1, .inr (6, [.ref a12, .int 0, .int 0, .int (-1), .int 0, .int 0, .int 0, .int 0]))] sz (fun (u : Unit) => [(a0, .inr (9, [.ref a1, .ref a2, .ref a3, .ref a4, .int 0, .ref a5, .ref a6, .ref a7, .ref a8, .ref a9, .ref a10, .ref a11])), (a1, .inr (6, [.ref a12, .int x0, .int 0, .int (-1), .int 0, .int 0, .int 0, .int 0]))])) (va_A [(a0, .inr (9, [.ref a1, .ref a2, .ref a3, .ref a4, .int 0, .ref a5, .ref a6, .ref a7, .ref a8, .ref a9, .ref a10, .ref a11])), (a1, .inr (6, [.ref a12, .int 0, .int 0, .int (-1), .int 0, .int 0, .int 0, .int 0]))] sz)) 0 0 (va_A [(a0, .inr (9, [.ref a1, .ref a2, .ref a3, .ref a4, .int 0, .ref a5, .ref a6, .ref a7, .ref a8, .ref a9, .ref a10, .ref a11])), (a1, .inr (6, [.ref a12, .int 0, .int 0, .int (-1), .int 0, .int 0, .int 0, .int 0]))] sz) := by
  refine pm (by decide) (Nat.le_of_ble_eq_true rfl) ?_
  intro p e s m below meth c ls hx hb hr hml hown hlk hnm hts hv hl
  have hown : s.vm.findClass RX9 = some m.cls := hown
  have hl : lv_has ls 2 [(0, .ref a0), (1, .int x0)] := hl
  obtain ⟨hsz, hP, hK, hD0, hE⟩ := hv
  subst hsz
  have hD := hD0.self (sz := s.heap.size)
  obtain ⟨AA, hAe⟩ : ∃ AA, AA = va_A [(a0, .inr (9, [.ref a1, .ref a2, .ref a3, .ref a4, .int 0, .ref a5, .ref a6, .ref a7, .ref a8, .ref a9, .ref a10, .ref a11])), (a1, .inr (6, [.ref a12, .int 0, .int 0, .int (-1), .int 0, .int 0, .int 0, .int 0]))] s.heap.size := ⟨_, rfl⟩
  rw [← hAe] at hD
  have hA : ∀ q : Nat, s.heap.size ≤ q → AA q := fun q h => by rw [hAe]; exact Or.inr h
  have hS : va_S AA s.heap s.heap [] := va_S.rf
  obtain ⟨-, hAOT, hAOR, hAOI⟩ := id hE
  refine lv_iload_n hx hb dX9_end_0 rfl (lv_at hl 1 rfl) ?_
  refine lv_if_lt (tgt := 15) hx hb dX9_end_1 (by decide) (fun c9 => absurd c9 hy0) (fun _ => ?_)
  refine lv_iload_n hx hb dX9_end_4 rfl (lv_at hl 1 rfl) ?_
  refine lv_aload_n hx hb dX9_end_5 rfl (lv_at hl 0 rfl) ?_
  refine va_get (D := D) (ci := 9) (v := .ref a1) (C := RX9) (T := TX9) (N := 12) hx hb hts (fun w h => uc_in w (inX9 w h)) hown hK hP 0 rfl rfl 0 (by decide) (hts _ (uc_in _ q_f383)) (fun _ h9 => h9) rfl dX9_end_6 ?_
  refine va_get (D := D) (ci := 6) (v := .int 0) (C := RX6) (T := TX6) (N := 8) hx hb hts (fun w h => uc_in w (inX6 w h)) hown hK hP 1 rfl rfl 1 (by decide) (hts _ (uc_in _ q_f34)) (fun _ h9 => h9) rfl dX9_end_9 ?_
  refine lv_icmp_le (tgt := 17) hx hb dX9_end_12 (by decide) (fun _ => ?_) (fun c9 => absurd (Int32.not_lt.mp hy1) c9)
  refine lv_aload_n hx hb dX9_end_17 rfl (lv_at hl 0 rfl) ?_
  refine va_get (D := D) (ci := 9) (v := .ref a1) (C := RX9) (T := TX9) (N := 12) hx hb hts (fun w h => uc_in w (inX9 w h)) hown hK hP 0 rfl rfl 0 (by decide) (hts _ (uc_in _ q_f383)) (fun _ h9 => h9) rfl dX9_end_18 ?_
  refine lv_iload_n hx hb dX9_end_21 rfl (lv_at hl 1 rfl) ?_
  refine va_put (D := D) (ci := 6) (v := .int x0) (ty := .int) (C := RX6) (T := TX6) (N := 8) hx hb hts (fun w h => uc_in w (inX6 w h)) tyX6 tyX6_ok nmX6 hown hK hP hD hS 1 rfl rfl 1 (by decide) (hts _ (uc_in _ q_f34)) (fun _ h9 => h9) rfl (by decide +kernel) rfl rfl (Nat.le_of_ble_eq_true rfl) dX9_end_22 (fun H locs hP hD hS => ?_)
  have hP : va_P D vwCl [(a0, .inr (9, [.ref a1, .ref a2, .ref a3, .ref a4, .int 0, .ref a5, .ref a6, .ref a7, .ref a8, .ref a9, .ref a10, .ref a11])), (a1, .inr (6, [.ref a12, .int x0, .int 0, .int (-1), .int 0, .int 0, .int 0, .int 0]))] H := hP
  have hD : va_D AA [(a0, .inr (9, [.ref a1, .ref a2, .ref a3, .ref a4, .int 0, .ref a5, .ref a6, .ref a7, .ref a8, .ref a9, .ref a10, .ref a11])), (a1, .inr (6, [.ref a12, .int x0, .int 0, .int (-1), .int 0, .int 0, .int 0, .int 0]))] := hD
  refine lv_iload_n hx hb dX9_end_25 rfl (lv_at hl 1 rfl) ?_
  subst hAe
  have hP9 := hP.sub (ws' := [(a0, .inr (9, [.ref a1, .ref a2, .ref a3, .ref a4, .int 0, .ref a5, .ref a6, .ref a7, .ref a8, .ref a9, .ref a10, .ref a11])), (a1, .inr (6, [.ref a12, .int x0, .int 0, .int (-1), .int 0, .int 0, .int 0, .int 0]))]) [0, 1] rfl
  have hD9 := hD.sub (ws' := [(a0, .inr (9, [.ref a1, .ref a2, .ref a3, .ref a4, .int 0, .ref a5, .ref a6, .ref a7, .ref a8, .ref a9, .ref a10, .ref a11])), (a1, .inr (6, [.ref a12, .int x0, .int 0, .int (-1), .int 0, .int 0, .int 0, .int 0]))]) [0, 1] rfl rfl
  exact W.iret hx hb hr (fun t ht hW => ⟨⟨x0, (), rfl, rfl, by rw [ht]; exact hP9, va_K.moved hW.alike hK, hD9⟩, hS.F ht⟩) hS.2.2 dX9_end_26
