def cns (q : Nat) (g : Nat → Nat) : Nat → Nat
  | 0 => q
  | k + 1 => g k
def vX5 (C : Nat → ClassId) (a : Nat) (g : Nat → Nat) (f2 : Nat → Option Nat) : va_W := (a, .inr (5, [.int 0, .int 0, .ref (g 0), .ref (g 1)])) :: (mmG C (g 0) 7 6 f2 ++ [((g 1), .inl (C 1, 7, .inl (fun _ => 0)))])
def vX1 (C : Nat → ClassId) (a : Nat) (g : Nat → Nat) (f3 f4 : Nat → Option Nat) : va_W := (a, .inr (1, [.int 0, .int 0, .int 0, .int 0, .int 0, .int 0, .int 0, .int 0, .ref (g 0), .ref (g 1), .ref (g 2), .ref (g 3), .ref (g 4), .ref (g 5), .ref (g 6)])) :: ([((g 0), .inl (C 1, 7, .inl (fun _ => 0)))] ++ mmG C (g 1) 49 6 f3 ++ mmG C (g 2) 21 6 f4 ++ [((g 3), .inl (C 1, 7, .inl (fun _ => 0)))] ++ [((g 4), .inl (C 1, 7, .inl (fun _ => 0)))] ++ [((g 5), .inl (C 1, 7, .inl (fun _ => 0)))] ++ [((g 6), .inl (C 1, 7, .inl (fun _ => 0)))])
def W9 (C : Nat → ClassId) (a : Nat) (U : Nat → Nat → Nat) (f0 f1 f2 f3 f4 : Nat → Option Nat) : va_W := ((U 16 1), .inl (C 5, 4, .inr (.inr (.inr (.inr f0))))) :: ((U 16 0), .inl (C 4, 3, .inr (.inr (.inr (.inr f1))))) :: (a, .inr (9, [.ref (U 0 0), .ref (U 1 0), .ref (U 2 0), .ref (U 16 0), .int 0, .ref (U 6 0), .ref (U 16 1), .ref (U 11 0), .ref (U 12 0), .ref (U 13 0), .ref (U 14 0), .ref (U 15 0)])) :: (wX6 C (U 0 0) (fun k => U 0 (k + 1)) ++ (wX7 C (U 1 0) (fun k => U 1 (k + 1)) ++ (wX7 C (U 2 0) (fun k => U 2 (k + 1)) ++ (wX7 C (U 3 0) (fun k => U 3 (k + 1)) ++ (wX7 C (U 4 0) (fun k => U 4 (k + 1)) ++ (wX7 C (U 5 0) (fun k => U 5 (k + 1)) ++ (vX5 C (U 6 0) (fun k => U 6 (k + 1)) f2 ++ (wX3 C (U 7 0) (fun k => U 7 (k + 1)) ++ (wX3 C (U 8 0) (fun k => U 8 (k + 1)) ++ (wX3 C (U 9 0) (fun k => U 9 (k + 1)) ++ (wX3 C (U 10 0) (fun k => U 10 (k + 1)) ++ (vX1 C (U 11 0) (fun k => U 11 (k + 1)) f3 f4 ++ (wX0 C (U 12 0) (fun k => U 12 (k + 1)) ++ (wX2 C (U 13 0) (fun k => U 13 (k + 1)) ++ (wX8 C (U 14 0) (fun k => U 14 (k + 1)) ++ (wX4 C (U 15 0) (fun k => U 15 (k + 1))))))))))))))))))
abbrev A9 (a : Nat) (U : Nat → Nat → Nat) : Nat → Nat := fun k => ([a, (U 0 0), (U 1 0), (U 2 0), (U 3 0), (U 4 0), (U 5 0), (U 6 0), (U 7 0), (U 8 0), (U 9 0), (U 10 0), (U 11 0), (U 12 0), (U 13 0), (U 14 0), (U 15 0), (U 16 0), (U 16 1), (U 6 1), (U 11 2), (U 11 3), (U 0 1), (U 1 6), (U 1 7), (U 1 8), (U 2 6), (U 2 7), (U 2 8), (U 3 6), (U 3 7), (U 3 8), (U 4 6), (U 4 7), (U 4 8), (U 5 6), (U 5 7), (U 5 8), (U 6 2), (U 7 1), (U 8 1), (U 9 1), (U 10 1), (U 11 1), (U 11 4), (U 11 5), (U 11 6), (U 11 7), (U 13 2), (U 13 3), (U 14 1), (U 14 2), (U 1 1), (U 1 2), (U 1 3), (U 1 4), (U 1 5), (U 2 1), (U 2 2), (U 2 3), (U 2 4), (U 2 5), (U 3 1), (U 3 2), (U 3 3), (U 3 4), (U 3 5), (U 4 1), (U 4 2), (U 4 3), (U 4 4), (U 4 5), (U 5 1), (U 5 2), (U 5 3), (U 5 4), (U 5 5), (U 12 1), (U 12 2), (U 12 3), (U 12 4), (U 13 1), (U 14 3), (U 15 1), ((U 6 1) + 1 + 0), ((U 6 1) + 1 + 1), ((U 6 1) + 1 + 2), ((U 6 1) + 1 + 3), ((U 6 1) + 1 + 4), ((U 6 1) + 1 + 5), ((U 6 1) + 1 + 6), ((U 11 2) + 1 + 0), ((U 11 2) + 1 + 1), ((U 11 2) + 1 + 2), ((U 11 2) + 1 + 3), ((U 11 2) + 1 + 4), ((U 11 2) + 1 + 5), ((U 11 2) + 1 + 6), ((U 11 2) + 1 + 7), ((U 11 2) + 1 + 8), ((U 11 2) + 1 + 9), ((U 11 2) + 1 + 10), ((U 11 2) + 1 + 11), ((U 11 2) + 1 + 12), ((U 11 2) + 1 + 13), ((U 11 2) + 1 + 14), ((U 11 2) + 1 + 15), ((U 11 2) + 1 + 16), ((U 11 2) + 1 + 17), ((U 11 2) + 1 + 18), ((U 11 2) + 1 + 19), ((U 11 2) + 1 + 20), ((U 11 2) + 1 + 21), ((U 11 2) + 1 + 22), ((U 11 2) + 1 + 23), ((U 11 2) + 1 + 24), ((U 11 2) + 1 + 25), ((U 11 2) + 1 + 26), ((U 11 2) + 1 + 27), ((U 11 2) + 1 + 28), ((U 11 2) + 1 + 29), ((U 11 2) + 1 + 30), ((U 11 2) + 1 + 31), ((U 11 2) + 1 + 32), ((U 11 2) + 1 + 33), ((U 11 2) + 1 + 34), ((U 11 2) + 1 + 35), ((U 11 2) + 1 + 36), ((U 11 2) + 1 + 37), ((U 11 2) + 1 + 38), ((U 11 2) + 1 + 39), ((U 11 2) + 1 + 40), ((U 11 2) + 1 + 41), ((U 11 2) + 1 + 42), ((U 11 2) + 1 + 43), ((U 11 2) + 1 + 44), ((U 11 2) + 1 + 45), ((U 11 2) + 1 + 46), ((U 11 2) + 1 + 47), ((U 11 2) + 1 + 48), ((U 11 3) + 1 + 0), ((U 11 3) + 1 + 1), ((U 11 3) + 1 + 2), ((U 11 3) + 1 + 3), ((U 11 3) + 1 + 4), ((U 11 3) + 1 + 5), ((U 11 3) + 1 + 6), ((U 11 3) + 1 + 7), ((U 11 3) + 1 + 8), ((U 11 3) + 1 + 9), ((U 11 3) + 1 + 10), ((U 11 3) + 1 + 11), ((U 11 3) + 1 + 12), ((U 11 3) + 1 + 13), ((U 11 3) + 1 + 14), ((U 11 3) + 1 + 15), ((U 11 3) + 1 + 16), ((U 11 3) + 1 + 17), ((U 11 3) + 1 + 18), ((U 11 3) + 1 + 19), ((U 11 3) + 1 + 20)] : List Nat).getD k 0
abbrev u9 : St := (fun k => if k = 3 then -1 else if k = 50 then -1 else if k = 52 then -1 else if k = 54 then -1 else if k = 56 then -1 else 0, fun _ _ => 0, fun _ => 0, fun _ _ => 0)
abbrev ix9 : List Nat := [2, 3, 5, 14, 23, 32, 41, 50, 60, 62, 64, 66, 68, 146, 151, 155, 159, 1, 0, 51, 70, 120, 4, 11, 12, 13, 20, 21, 22, 29, 30, 31, 38, 39, 40, 47, 48, 49, 59, 61, 63, 65, 67, 69, 142, 143, 144, 145, 153, 154, 156, 157, 6, 7, 8, 9, 10, 15, 16, 17, 18, 19, 24, 25, 26, 27, 28, 33, 34, 35, 36, 37, 42, 43, 44, 45, 46, 147, 148, 149, 150, 152, 158, 160, 52, 53, 54, 55, 56, 57, 58, 71, 72, 73, 74, 75, 76, 77, 78, 79, 80, 81, 82, 83, 84, 85, 86, 87, 88, 89, 90, 91, 92, 93, 94, 95, 96, 97, 98, 99, 100, 101, 102, 103, 104, 105, 106, 107, 108, 109, 110, 111, 112, 113, 114, 115, 116, 117, 118, 119, 121, 122, 123, 124, 125, 126, 127, 128, 129, 130, 131, 132, 133, 134, 135, 136, 137, 138, 139, 140, 141]
set_option maxHeartbeats 4000000 in
set_option maxRecDepth 100000 in
theorem to_cw_ix (C : Nat → ClassId) (a : Nat) (U : Nat → Nat → Nat) : ix9.map (fun i => (W9 C a U (fun i => some (A9 a U (8 + i))) (fun i => some (A9 a U (4 + i))) (fun i => some (A9 a U (52 + (32 + i)))) (fun i => some (A9 a U (52 + (39 + i)))) (fun i => some (A9 a U (52 + (88 + i)))))[i]?) = (cw C (A9 a U) u9).map some := rfl
set_option maxHeartbeats 4000000 in
set_option maxRecDepth 100000 in
theorem to_cw {D : va_G} {C : Nat → ClassId} {A' : Nat → Prop} {H : Heap} (a : Nat) (U : Nat → Nat → Nat) (hP : va_P D vwCl (W9 C a U (va_up (va_up (va_up (va_up (fun _ => none) 0 (some (U 7 0))) 1 (some (U 8 0))) 2 (some (U 9 0))) 3 (some (U 10 0))) (va_up (va_up (va_up (fun _ => none) 0 (some (U 3 0))) 1 (some (U 4 0))) 2 (some (U 5 0))) (fun i => some ((U 6 1) + 1 + i)) (fun i => some ((U 11 2) + 1 + i)) (fun i => some ((U 11 3) + 1 + i))) H) (hD : va_D A' (W9 C a U (va_up (va_up (va_up (va_up (fun _ => none) 0 (some (U 7 0))) 1 (some (U 8 0))) 2 (some (U 9 0))) 3 (some (U 10 0))) (va_up (va_up (va_up (fun _ => none) 0 (some (U 3 0))) 1 (some (U 4 0))) 2 (some (U 5 0))) (fun i => some ((U 6 1) + 1 + i)) (fun i => some ((U 11 2) + 1 + i)) (fun i => some ((U 11 3) + 1 + i)))) : va_P D vwCl (cw C (A9 a U) u9) H ∧ va_D A' (cw C (A9 a U) u9) := by
  obtain ⟨hP, hD⟩ := qcong (g := (fun i => some (A9 a U (8 + i)))) 0 hP hD rfl (fun j hj => by
    match j, hj with
    | 0, _ => rfl
    | 1, _ => rfl
    | 2, _ => rfl
    | 3, _ => rfl
    | k + 4, h => exact absurd h (by omega))
  have hP : va_P D vwCl (W9 C a U (fun i => some (A9 a U (8 + i))) (va_up (va_up (va_up (fun _ => none) 0 (some (U 3 0))) 1 (some (U 4 0))) 2 (some (U 5 0))) (fun i => some ((U 6 1) + 1 + i)) (fun i => some ((U 11 2) + 1 + i)) (fun i => some ((U 11 3) + 1 + i))) H := hP
  have hD : va_D A' (W9 C a U (fun i => some (A9 a U (8 + i))) (va_up (va_up (va_up (fun _ => none) 0 (some (U 3 0))) 1 (some (U 4 0))) 2 (some (U 5 0))) (fun i => some ((U 6 1) + 1 + i)) (fun i => some ((U 11 2) + 1 + i)) (fun i => some ((U 11 3) + 1 + i))) := hD
  obtain ⟨hP, hD⟩ := qcong (g := (fun i => some (A9 a U (4 + i)))) 1 hP hD rfl (fun j hj => by
    match j, hj with
    | 0, _ => rfl
    | 1, _ => rfl
    | 2, _ => rfl
    | k + 3, h => exact absurd h (by omega))
  have hP : va_P D vwCl (W9 C a U (fun i => some (A9 a U (8 + i))) (fun i => some (A9 a U (4 + i))) (fun i => some ((U 6 1) + 1 + i)) (fun i => some ((U 11 2) + 1 + i)) (fun i => some ((U 11 3) + 1 + i))) H := hP
  have hD : va_D A' (W9 C a U (fun i => some (A9 a U (8 + i))) (fun i => some (A9 a U (4 + i))) (fun i => some ((U 6 1) + 1 + i)) (fun i => some ((U 11 2) + 1 + i)) (fun i => some ((U 11 3) + 1 + i))) := hD
  obtain ⟨hP, hD⟩ := qcong (g := (fun i => some (A9 a U (52 + (32 + i))))) 51 hP hD rfl (fun j hj => by
    match j, hj with
    | 0, _ => rfl
    | 1, _ => rfl
    | 2, _ => rfl
    | 3, _ => rfl
    | 4, _ => rfl
    | 5, _ => rfl
    | 6, _ => rfl
    | k + 7, h => exact absurd h (by omega))
  have hP : va_P D vwCl (W9 C a U (fun i => some (A9 a U (8 + i))) (fun i => some (A9 a U (4 + i))) (fun i => some (A9 a U (52 + (32 + i)))) (fun i => some ((U 11 2) + 1 + i)) (fun i => some ((U 11 3) + 1 + i))) H := hP
  have hD : va_D A' (W9 C a U (fun i => some (A9 a U (8 + i))) (fun i => some (A9 a U (4 + i))) (fun i => some (A9 a U (52 + (32 + i)))) (fun i => some ((U 11 2) + 1 + i)) (fun i => some ((U 11 3) + 1 + i))) := hD
  obtain ⟨hP, hD⟩ := qcong (g := (fun i => some (A9 a U (52 + (39 + i))))) 70 hP hD rfl (fun j hj => by
    match j, hj with
    | 0, _ => rfl
    | 1, _ => rfl
    | 2, _ => rfl
    | 3, _ => rfl
    | 4, _ => rfl
    | 5, _ => rfl
    | 6, _ => rfl
    | 7, _ => rfl
    | 8, _ => rfl
    | 9, _ => rfl
    | 10, _ => rfl
    | 11, _ => rfl
    | 12, _ => rfl
    | 13, _ => rfl
    | 14, _ => rfl
    | 15, _ => rfl
    | 16, _ => rfl
    | 17, _ => rfl
    | 18, _ => rfl
    | 19, _ => rfl
    | 20, _ => rfl
    | 21, _ => rfl
    | 22, _ => rfl
    | 23, _ => rfl
    | 24, _ => rfl
    | 25, _ => rfl
    | 26, _ => rfl
    | 27, _ => rfl
    | 28, _ => rfl
    | 29, _ => rfl
    | 30, _ => rfl
    | 31, _ => rfl
    | 32, _ => rfl
    | 33, _ => rfl
    | 34, _ => rfl
    | 35, _ => rfl
    | 36, _ => rfl
    | 37, _ => rfl
    | 38, _ => rfl
    | 39, _ => rfl
    | 40, _ => rfl
    | 41, _ => rfl
    | 42, _ => rfl
    | 43, _ => rfl
    | 44, _ => rfl
    | 45, _ => rfl
    | 46, _ => rfl
    | 47, _ => rfl
    | 48, _ => rfl
    | k + 49, h => exact absurd h (by omega))
  have hP : va_P D vwCl (W9 C a U (fun i => some (A9 a U (8 + i))) (fun i => some (A9 a U (4 + i))) (fun i => some (A9 a U (52 + (32 + i)))) (fun i => some (A9 a U (52 + (39 + i)))) (fun i => some ((U 11 3) + 1 + i))) H := hP
  have hD : va_D A' (W9 C a U (fun i => some (A9 a U (8 + i))) (fun i => some (A9 a U (4 + i))) (fun i => some (A9 a U (52 + (32 + i)))) (fun i => some (A9 a U (52 + (39 + i)))) (fun i => some ((U 11 3) + 1 + i))) := hD
  obtain ⟨hP, hD⟩ := qcong (g := (fun i => some (A9 a U (52 + (88 + i))))) 120 hP hD rfl (fun j hj => by
    match j, hj with
    | 0, _ => rfl
    | 1, _ => rfl
    | 2, _ => rfl
    | 3, _ => rfl
    | 4, _ => rfl
    | 5, _ => rfl
    | 6, _ => rfl
    | 7, _ => rfl
    | 8, _ => rfl
    | 9, _ => rfl
    | 10, _ => rfl
    | 11, _ => rfl
    | 12, _ => rfl
    | 13, _ => rfl
    | 14, _ => rfl
    | 15, _ => rfl
    | 16, _ => rfl
    | 17, _ => rfl
    | 18, _ => rfl
    | 19, _ => rfl
    | 20, _ => rfl
    | k + 21, h => exact absurd h (by omega))
  have hP : va_P D vwCl (W9 C a U (fun i => some (A9 a U (8 + i))) (fun i => some (A9 a U (4 + i))) (fun i => some (A9 a U (52 + (32 + i)))) (fun i => some (A9 a U (52 + (39 + i)))) (fun i => some (A9 a U (52 + (88 + i))))) H := hP
  have hD : va_D A' (W9 C a U (fun i => some (A9 a U (8 + i))) (fun i => some (A9 a U (4 + i))) (fun i => some (A9 a U (52 + (32 + i)))) (fun i => some (A9 a U (52 + (39 + i)))) (fun i => some (A9 a U (52 + (88 + i))))) := hD
  exact ⟨hP.sub ix9 (mapFM (to_cw_ix C a U)), hD.sub ix9 (by decide +kernel) (to_cw_ix C a U)⟩
set_option maxHeartbeats 4000000 in
set_option maxRecDepth 100000 in
theorem i_X9 (l : Launch) (D : va_G) (C : Nat → ClassId) (a : Nat) (sz : Nat) : Met l yX9_init (uc yX9_init cX9_init 2 none) (rmL 2 160 2696) (va_Pc [.ref a] (MPre D (tyl C) [(a, .inr (9, [.null, .null, .null, .null, .int 0, .null, .null, .null, .null, .null, .null, .null]))] sz)) (va_Qv (fun (g : Nat → Nat) => g 0 = a) (MB D (tyl C) [(a, .inr (9, [.null, .null, .null, .null, .int 0, .null, .null, .null, .null, .null, .null, .null]))] sz (fun g => cw C g u9)) (va_A [(a, .inr (9, [.null, .null, .null, .null, .int 0, .null, .null, .null, .null, .null, .null, .null]))] sz)) 160 2696 (va_A [(a, .inr (9, [.null, .null, .null, .null, .int 0, .null, .null, .null, .null, .null, .null, .null]))] sz) := by
  refine pm (by decide) (Nat.le_of_ble_eq_true rfl) ?_
  intro p e s m below meth c ls hx hb hr hml hown hlk hnm hts hv hl
  have hown : s.vm.findClass RX9 = some m.cls := hown
  have hl : lv_has ls 2 [(0, .ref a)] := hl
  obtain ⟨hsz, hP, hK, hD0, hE⟩ := hv
  subst hsz
  have hD := hD0.self (sz := s.heap.size)
  obtain ⟨AA, hAe⟩ : ∃ AA, AA = va_A [(a, .inr (9, [.null, .null, .null, .null, .int 0, .null, .null, .null, .null, .null, .null, .null]))] s.heap.size := ⟨_, rfl⟩
  rw [← hAe] at hD
  have hA : ∀ q : Nat, s.heap.size ≤ q → AA q := fun q h => by rw [hAe]; exact Or.inr h
  have hS : va_S AA s.heap s.heap [] := va_S.rf
  obtain ⟨-, hAOT, hAOR, hAOI⟩ := id hE
  have hP : va_P D vwCl ((a, .inr (9, [.null, .null, .null, .null, .int 0, .null, .null, .null, .null, .null, .null, .null])) :: ([] : va_W)) s.heap := hP
  have hD : va_D AA ((a, .inr (9, [.null, .null, .null, .null, .int 0, .null, .null, .null, .null, .null, .null, .null])) :: ([] : va_W)) := hD
  refine lv_aload_n hx hb dX9_init_0 rfl (lv_at hl 0 rfl) ?_
  refine W.objInit hx hb hown (hts _ (uc_in _ q_m24)) (hts _ (uc_in _ q_n25)) (hts _ (uc_in _ q_obj)) rfl (by rw [hml]; exact hl.1) rfl dX9_init_1 (Nat.le_of_ble_eq_true rfl) (Nat.le_of_ble_eq_true rfl) ?_
  refine W.eq (g2 := F0 m 4 ls []) rfl ?_
  refine lv_aload_n hx hb dX9_init_4 rfl (lv_at hl 0 rfl) ?_
  refine va_new (ci := 6) (fs := [.null, .int 0, .int 0, .int 0, .int 0, .int 0, .int 0, .int 0]) (C := RX6) (T := TX6) (N := 8) hx hb hts (fun w h => uc_in w (inX6 w h)) tyX6 tyX6_ok hown (hts _ (uc_in _ q_l27)) (hts _ (uc_in _ q_b28)) (hts _ (uc_in _ q_i2)) hK hP hD hS hA rfl (dfX6) (Nat.le_of_ble_eq_true rfl) (Nat.le_of_ble_eq_true rfl) dX9_init_5 (fun q1 H hP hD hS => ?_)
  refine W.cs (cells' := 1) (slots' := 8) rfl rfl ?_
  refine lv_dup hx hb dX9_init_8 rfl ?_
  refine ciT (host := "SlowNoon") (Cn := RX6) (n := 0) (As := []) (rest := [.ref q1, .ref a]) ⟨hx, hb, hml, hown, hts⟩ uc_in (i_X6 l D C q1 H.size) (hE.1 _ (by decide +kernel)) q_n30 q_i2 q_c31 rfl hvX6_init ⟨(Nat.le_of_ble_eq_true rfl), (Nat.le_of_ble_eq_true rfl)⟩ ⟨(Nat.le_of_ble_eq_true rfl), (Nat.le_of_ble_eq_true rfl)⟩ hE hK hP hD hS hA rfl hl.1 rfl (Nat.le_of_ble_eq_true rfl) dX9_init_9 (fun g2 H locs _ hP hD hS => ?_)
  refine W.cs (cells' := 2) (slots' := 808) rfl rfl ?_
  obtain ⟨R3, eR3⟩ : ∃ RR : va_W, RR = ([] : va_W) ++ wX6 C q1 g2 := ⟨_, rfl⟩
  have hP : va_P D vwCl ((a, .inr (9, [.null, .null, .null, .null, .int 0, .null, .null, .null, .null, .null, .null, .null])) :: R3) H := by rw [eR3]; exact hP
  have hD : va_D AA ((a, .inr (9, [.null, .null, .null, .null, .int 0, .null, .null, .null, .null, .null, .null, .null])) :: R3) := by rw [eR3]; exact hD
  refine va_putF (D := D) (ci := 9) (v := .ref q1) (ty := .object "SlowNoon$Teller") (C := RX9) (T := TX9) (N := 12) hx hb hts (fun w h => uc_in w (inX9 w h)) tyX9 tyX9_ok nmX9 hown hK hP hD hS 0 rfl rfl 0 (by decide) (hts _ (uc_in _ q_f383)) (fun _ h9 => h9) rfl hnm rfl (by decide +kernel) rfl rfl (Nat.le_of_ble_eq_true rfl) dX9_init_12 (fun H locs hP hD hS => ?_)
  have hP : va_P D vwCl ((a, .inr (9, [.ref q1, .null, .null, .null, .int 0, .null, .null, .null, .null, .null, .null, .null])) :: R3) H := hP
  have hD : va_D AA ((a, .inr (9, [.ref q1, .null, .null, .null, .int 0, .null, .null, .null, .null, .null, .null, .null])) :: R3) := hD
  refine lv_aload_n hx hb dX9_init_15 rfl (lv_at hl 0 rfl) ?_
  refine va_new (ci := 7) (fs := [.int 0, .int 0, .int 0, .int 0, .int 0, .int 0, .int 0, .int 0, .null, .null, .null, .null, .null, .null, .null, .null]) (C := RX7) (T := TX7) (N := 16) hx hb hts (fun w h => uc_in w (inX7 w h)) tyX7 tyX7_ok hown (hts _ (uc_in _ q_l62)) (hts _ (uc_in _ q_b63)) (hts _ (uc_in _ q_i3)) hK hP hD hS hA rfl (dfX7) (Nat.le_of_ble_eq_true rfl) (Nat.le_of_ble_eq_true rfl) dX9_init_16 (fun q4 H hP hD hS => ?_)
  refine W.cs (cells' := 3) (slots' := 824) rfl rfl ?_
  refine lv_dup hx hb dX9_init_19 rfl ?_
  refine ciT (host := "SlowNoon") (Cn := RX7) (n := 0) (As := []) (rest := [.ref q4, .ref a]) ⟨hx, hb, hml, hown, hts⟩ uc_in (i_X7 l D C q4 H.size) (hE.1 _ (by decide +kernel)) q_n65 q_i3 q_c66 rfl hvX7_init ⟨(Nat.le_of_ble_eq_true rfl), (Nat.le_of_ble_eq_true rfl)⟩ ⟨(Nat.le_of_ble_eq_true rfl), (Nat.le_of_ble_eq_true rfl)⟩ hE hK hP hD hS hA rfl hl.1 rfl (Nat.le_of_ble_eq_true rfl) dX9_init_20 (fun g5 H locs _ hP hD hS => ?_)
  refine W.cs (cells' := 11) (slots' := 974) rfl rfl ?_
  obtain ⟨R6, eR6⟩ : ∃ RR : va_W, RR = R3 ++ wX7 C q4 g5 := ⟨_, rfl⟩
  have hP : va_P D vwCl ((a, .inr (9, [.ref q1, .null, .null, .null, .int 0, .null, .null, .null, .null, .null, .null, .null])) :: R6) H := by rw [eR6]; exact hP
  have hD : va_D AA ((a, .inr (9, [.ref q1, .null, .null, .null, .int 0, .null, .null, .null, .null, .null, .null, .null])) :: R6) := by rw [eR6]; exact hD
  refine va_putF (D := D) (ci := 9) (v := .ref q4) (ty := .object "SlowNoon$Town") (C := RX9) (T := TX9) (N := 12) hx hb hts (fun w h => uc_in w (inX9 w h)) tyX9 tyX9_ok nmX9 hown hK hP hD hS 0 rfl rfl 1 (by decide) (hts _ (uc_in _ q_f384)) (fun _ h9 => h9) rfl hnm rfl (by decide +kernel) rfl rfl (Nat.le_of_ble_eq_true rfl) dX9_init_23 (fun H locs hP hD hS => ?_)
  have hP : va_P D vwCl ((a, .inr (9, [.ref q1, .ref q4, .null, .null, .int 0, .null, .null, .null, .null, .null, .null, .null])) :: R6) H := hP
  have hD : va_D AA ((a, .inr (9, [.ref q1, .ref q4, .null, .null, .int 0, .null, .null, .null, .null, .null, .null, .null])) :: R6) := hD
  refine lv_aload_n hx hb dX9_init_26 rfl (lv_at hl 0 rfl) ?_
  refine va_new (ci := 7) (fs := [.int 0, .int 0, .int 0, .int 0, .int 0, .int 0, .int 0, .int 0, .null, .null, .null, .null, .null, .null, .null, .null]) (C := RX7) (T := TX7) (N := 16) hx hb hts (fun w h => uc_in w (inX7 w h)) tyX7 tyX7_ok hown (hts _ (uc_in _ q_l62)) (hts _ (uc_in _ q_b63)) (hts _ (uc_in _ q_i3)) hK hP hD hS hA rfl (dfX7) (Nat.le_of_ble_eq_true rfl) (Nat.le_of_ble_eq_true rfl) dX9_init_27 (fun q7 H hP hD hS => ?_)
  refine W.cs (cells' := 12) (slots' := 990) rfl rfl ?_
  refine lv_dup hx hb dX9_init_30 rfl ?_
  refine ciT (host := "SlowNoon") (Cn := RX7) (n := 0) (As := []) (rest := [.ref q7, .ref a]) ⟨hx, hb, hml, hown, hts⟩ uc_in (i_X7 l D C q7 H.size) (hE.1 _ (by decide +kernel)) q_n65 q_i3 q_c66 rfl hvX7_init ⟨(Nat.le_of_ble_eq_true rfl), (Nat.le_of_ble_eq_true rfl)⟩ ⟨(Nat.le_of_ble_eq_true rfl), (Nat.le_of_ble_eq_true rfl)⟩ hE hK hP hD hS hA rfl hl.1 rfl (Nat.le_of_ble_eq_true rfl) dX9_init_31 (fun g8 H locs _ hP hD hS => ?_)
  refine W.cs (cells' := 20) (slots' := 1140) rfl rfl ?_
  obtain ⟨R9, eR9⟩ : ∃ RR : va_W, RR = R6 ++ wX7 C q7 g8 := ⟨_, rfl⟩
  have hP : va_P D vwCl ((a, .inr (9, [.ref q1, .ref q4, .null, .null, .int 0, .null, .null, .null, .null, .null, .null, .null])) :: R9) H := by rw [eR9]; exact hP
  have hD : va_D AA ((a, .inr (9, [.ref q1, .ref q4, .null, .null, .int 0, .null, .null, .null, .null, .null, .null, .null])) :: R9) := by rw [eR9]; exact hD
  refine va_putF (D := D) (ci := 9) (v := .ref q7) (ty := .object "SlowNoon$Town") (C := RX9) (T := TX9) (N := 12) hx hb hts (fun w h => uc_in w (inX9 w h)) tyX9 tyX9_ok nmX9 hown hK hP hD hS 0 rfl rfl 2 (by decide) (hts _ (uc_in _ q_f385)) (fun _ h9 => h9) rfl hnm rfl (by decide +kernel) rfl rfl (Nat.le_of_ble_eq_true rfl) dX9_init_34 (fun H locs hP hD hS => ?_)
  have hP : va_P D vwCl ((a, .inr (9, [.ref q1, .ref q4, .ref q7, .null, .int 0, .null, .null, .null, .null, .null, .null, .null])) :: R9) H := hP
  have hD : va_D AA ((a, .inr (9, [.ref q1, .ref q4, .ref q7, .null, .int 0, .null, .null, .null, .null, .null, .null, .null])) :: R9) := hD
  refine lv_aload_n hx hb dX9_init_37 rfl (lv_at hl 0 rfl) ?_
  refine lv_iconst (v := 3) hx hb dX9_init_38 (by decide) ?_
  refine nx_T hx hb hown (hts _ (uc_in _ q_l62)) hAOT hK hP hD hS hA (n := 3) (N' := 3) (by decide) (by decide) (Nat.le_of_ble_eq_true rfl) (Nat.le_of_ble_eq_true rfl) (Nat.le_of_ble_eq_true rfl) dX9_init_39 (fun q10 H hP hD hS => ?_)
  have hP : va_P D vwCl ((q10, .inl (C 4, 3, .inr (.inr (.inr (.inr (fun _ => none)))))) :: (a, .inr (9, [.ref q1, .ref q4, .ref q7, .null, .int 0, .null, .null, .null, .null, .null, .null, .null])) :: R9) H := hP.flip
  have hD : va_D AA ((q10, .inl (C 4, 3, .inr (.inr (.inr (.inr (fun _ => none)))))) :: (a, .inr (9, [.ref q1, .ref q4, .ref q7, .null, .int 0, .null, .null, .null, .null, .null, .null, .null])) :: R9) := hD.flip
  refine W.cs (cells' := 21) (slots' := 1143) rfl rfl ?_
  refine va_putF (D := D) (ci := 9) (v := .ref q10) (ty := .array (.object "SlowNoon$Town")) (C := RX9) (T := TX9) (N := 12) hx hb hts (fun w h => uc_in w (inX9 w h)) tyX9 tyX9_ok nmX9 hown hK hP hD hS 1 rfl rfl 3 (by decide) (hts _ (uc_in _ q_f386)) (fun _ h9 => h9) rfl hnm rfl (by decide +kernel) rfl rfl (Nat.le_of_ble_eq_true rfl) dX9_init_42 (fun H locs hP hD hS => ?_)
  have hP : va_P D vwCl ((q10, .inl (C 4, 3, .inr (.inr (.inr (.inr (fun _ => none)))))) :: (a, .inr (9, [.ref q1, .ref q4, .ref q7, .ref q10, .int 0, .null, .null, .null, .null, .null, .null, .null])) :: R9) H := hP
  have hD : va_D AA ((q10, .inl (C 4, 3, .inr (.inr (.inr (.inr (fun _ => none)))))) :: (a, .inr (9, [.ref q1, .ref q4, .ref q7, .ref q10, .int 0, .null, .null, .null, .null, .null, .null, .null])) :: R9) := hD
  refine lv_iconst (v := 0) hx hb dX9_init_45 (by decide) ?_
  refine lv_istore_n (lv' := [(1, .int 0), (0, .ref a)]) hx hb dX9_init_46 rfl hl (by decide) rfl (fun ls hl => ?_)
  refine lv_iload_n hx hb dX9_init_47 rfl (lv_at hl 0 rfl) ?_
  refine lv_iconst (v := 3) hx hb dX9_init_48 (by decide) ?_
  refine lv_icmp_ge (tgt := 71) hx hb dX9_init_49 (by decide) (fun c9 => absurd c9 (by decide)) (fun _ => ?_)
  refine lv_aload_n hx hb dX9_init_52 rfl (lv_at hl 1 rfl) ?_
  refine va_get (D := D) (ci := 9) (v := .ref q10) (C := RX9) (T := TX9) (N := 12) hx hb hts (fun w h => uc_in w (inX9 w h)) hown hK hP 1 rfl rfl 3 (by decide) (hts _ (uc_in _ q_f386)) (fun _ h9 => h9) rfl dX9_init_53 ?_
  refine lv_iload_n hx hb dX9_init_56 rfl (lv_at hl 0 rfl) ?_
  refine va_new (ci := 7) (fs := [.int 0, .int 0, .int 0, .int 0, .int 0, .int 0, .int 0, .int 0, .null, .null, .null, .null, .null, .null, .null, .null]) (C := RX7) (T := TX7) (N := 16) hx hb hts (fun w h => uc_in w (inX7 w h)) tyX7 tyX7_ok hown (hts _ (uc_in _ q_l62)) (hts _ (uc_in _ q_b63)) (hts _ (uc_in _ q_i3)) hK hP hD hS hA rfl (dfX7) (Nat.le_of_ble_eq_true rfl) (Nat.le_of_ble_eq_true rfl) dX9_init_57 (fun q11 H hP hD hS => ?_)
  refine W.cs (cells' := 22) (slots' := 1159) rfl rfl ?_
  refine lv_dup hx hb dX9_init_60 rfl ?_
  refine ciT (host := "SlowNoon") (Cn := RX7) (n := 0) (As := []) (rest := [.ref q11, .int 0, .ref q10]) ⟨hx, hb, hml, hown, hts⟩ uc_in (i_X7 l D C q11 H.size) (hE.1 _ (by decide +kernel)) q_n65 q_i3 q_c66 rfl hvX7_init ⟨(Nat.le_of_ble_eq_true rfl), (Nat.le_of_ble_eq_true rfl)⟩ ⟨(Nat.le_of_ble_eq_true rfl), (Nat.le_of_ble_eq_true rfl)⟩ hE hK hP hD hS hA rfl hl.1 rfl (Nat.le_of_ble_eq_true rfl) dX9_init_61 (fun g12 H locs _ hP hD hS => ?_)
  refine W.cs (cells' := 30) (slots' := 1309) rfl rfl ?_
  have hP : va_P D vwCl (wX7 C q11 g12 ++ ((q10, .inl (C 4, 3, .inr (.inr (.inr (.inr (fun _ => none)))))) :: (a, .inr (9, [.ref q1, .ref q4, .ref q7, .ref q10, .int 0, .null, .null, .null, .null, .null, .null, .null])) :: R9)) H := hP.flip
  have hD : va_D AA (wX7 C q11 g12 ++ ((q10, .inl (C 4, 3, .inr (.inr (.inr (.inr (fun _ => none)))))) :: (a, .inr (9, [.ref q1, .ref q4, .ref q7, .ref q10, .int 0, .null, .null, .null, .null, .null, .null, .null])) :: R9)) := hD.flip
  refine va_astq (r := (RX7, TX7, 16)) hx hb hK hP hD hS 9 4 0 7 rfl rfl rfl rfl (vp_in_iff.mpr ⟨by decide, by decide⟩) dX9_init_64 (fun H locs hP hD hS => ?_)
  have hP : va_P D vwCl (((q10, .inl (C 4, 3, .inr (.inr (.inr (.inr (va_up (fun _ => none) 0 (some q11))))))) :: (a, .inr (9, [.ref q1, .ref q4, .ref q7, .ref q10, .int 0, .null, .null, .null, .null, .null, .null, .null])) :: R9) ++ wX7 C q11 g12) H := va_P.flip (w1 := wX7 C q11 g12) hP
  have hD : va_D AA (((q10, .inl (C 4, 3, .inr (.inr (.inr (.inr (va_up (fun _ => none) 0 (some q11))))))) :: (a, .inr (9, [.ref q1, .ref q4, .ref q7, .ref q10, .int 0, .null, .null, .null, .null, .null, .null, .null])) :: R9) ++ wX7 C q11 g12) := va_D.flip (w1 := wX7 C q11 g12) hD
  obtain ⟨R13, eR13⟩ : ∃ RR : va_W, RR = R9 ++ wX7 C q11 g12 := ⟨_, rfl⟩
  have hP : va_P D vwCl ((q10, .inl (C 4, 3, .inr (.inr (.inr (.inr (va_up (fun _ => none) 0 (some q11))))))) :: (a, .inr (9, [.ref q1, .ref q4, .ref q7, .ref q10, .int 0, .null, .null, .null, .null, .null, .null, .null])) :: R13) H := by rw [eR13]; exact hP
  have hD : va_D AA ((q10, .inl (C 4, 3, .inr (.inr (.inr (.inr (va_up (fun _ => none) 0 (some q11))))))) :: (a, .inr (9, [.ref q1, .ref q4, .ref q7, .ref q10, .int 0, .null, .null, .null, .null, .null, .null, .null])) :: R13) := by rw [eR13]; exact hD
  refine lv_iinc (v := 1) (lv' := [(1, .int 1), (0, .ref a)]) hx hb dX9_init_65 hl (k := 0) rfl (by decide) (by decide) rfl (fun ls hl => ?_)
  refine lv_goto (tgt := 47) hx hb dX9_init_68 (by decide) ?_
  refine lv_iload_n hx hb dX9_init_47 rfl (lv_at hl 0 rfl) ?_
  refine lv_iconst (v := 3) hx hb dX9_init_48 (by decide) ?_
  refine lv_icmp_ge (tgt := 71) hx hb dX9_init_49 (by decide) (fun c9 => absurd c9 (by decide)) (fun _ => ?_)
  refine lv_aload_n hx hb dX9_init_52 rfl (lv_at hl 1 rfl) ?_
  refine va_get (D := D) (ci := 9) (v := .ref q10) (C := RX9) (T := TX9) (N := 12) hx hb hts (fun w h => uc_in w (inX9 w h)) hown hK hP 1 rfl rfl 3 (by decide) (hts _ (uc_in _ q_f386)) (fun _ h9 => h9) rfl dX9_init_53 ?_
  refine lv_iload_n hx hb dX9_init_56 rfl (lv_at hl 0 rfl) ?_
  refine va_new (ci := 7) (fs := [.int 0, .int 0, .int 0, .int 0, .int 0, .int 0, .int 0, .int 0, .null, .null, .null, .null, .null, .null, .null, .null]) (C := RX7) (T := TX7) (N := 16) hx hb hts (fun w h => uc_in w (inX7 w h)) tyX7 tyX7_ok hown (hts _ (uc_in _ q_l62)) (hts _ (uc_in _ q_b63)) (hts _ (uc_in _ q_i3)) hK hP hD hS hA rfl (dfX7) (Nat.le_of_ble_eq_true rfl) (Nat.le_of_ble_eq_true rfl) dX9_init_57 (fun q14 H hP hD hS => ?_)
  refine W.cs (cells' := 31) (slots' := 1325) rfl rfl ?_
  refine lv_dup hx hb dX9_init_60 rfl ?_
  refine ciT (host := "SlowNoon") (Cn := RX7) (n := 0) (As := []) (rest := [.ref q14, .int 1, .ref q10]) ⟨hx, hb, hml, hown, hts⟩ uc_in (i_X7 l D C q14 H.size) (hE.1 _ (by decide +kernel)) q_n65 q_i3 q_c66 rfl hvX7_init ⟨(Nat.le_of_ble_eq_true rfl), (Nat.le_of_ble_eq_true rfl)⟩ ⟨(Nat.le_of_ble_eq_true rfl), (Nat.le_of_ble_eq_true rfl)⟩ hE hK hP hD hS hA rfl hl.1 rfl (Nat.le_of_ble_eq_true rfl) dX9_init_61 (fun g15 H locs _ hP hD hS => ?_)
  refine W.cs (cells' := 39) (slots' := 1475) rfl rfl ?_
  have hP : va_P D vwCl (wX7 C q14 g15 ++ ((q10, .inl (C 4, 3, .inr (.inr (.inr (.inr (va_up (fun _ => none) 0 (some q11))))))) :: (a, .inr (9, [.ref q1, .ref q4, .ref q7, .ref q10, .int 0, .null, .null, .null, .null, .null, .null, .null])) :: R13)) H := hP.flip
  have hD : va_D AA (wX7 C q14 g15 ++ ((q10, .inl (C 4, 3, .inr (.inr (.inr (.inr (va_up (fun _ => none) 0 (some q11))))))) :: (a, .inr (9, [.ref q1, .ref q4, .ref q7, .ref q10, .int 0, .null, .null, .null, .null, .null, .null, .null])) :: R13)) := hD.flip
  refine va_astq (r := (RX7, TX7, 16)) hx hb hK hP hD hS 9 4 0 7 rfl rfl rfl rfl (vp_in_iff.mpr ⟨by decide, by decide⟩) dX9_init_64 (fun H locs hP hD hS => ?_)
  have hP : va_P D vwCl (((q10, .inl (C 4, 3, .inr (.inr (.inr (.inr (va_up (va_up (fun _ => none) 0 (some q11)) 1 (some q14))))))) :: (a, .inr (9, [.ref q1, .ref q4, .ref q7, .ref q10, .int 0, .null, .null, .null, .null, .null, .null, .null])) :: R13) ++ wX7 C q14 g15) H := va_P.flip (w1 := wX7 C q14 g15) hP
  have hD : va_D AA (((q10, .inl (C 4, 3, .inr (.inr (.inr (.inr (va_up (va_up (fun _ => none) 0 (some q11)) 1 (some q14))))))) :: (a, .inr (9, [.ref q1, .ref q4, .ref q7, .ref q10, .int 0, .null, .null, .null, .null, .null, .null, .null])) :: R13) ++ wX7 C q14 g15) := va_D.flip (w1 := wX7 C q14 g15) hD
  obtain ⟨R16, eR16⟩ : ∃ RR : va_W, RR = R13 ++ wX7 C q14 g15 := ⟨_, rfl⟩
  have hP : va_P D vwCl ((q10, .inl (C 4, 3, .inr (.inr (.inr (.inr (va_up (va_up (fun _ => none) 0 (some q11)) 1 (some q14))))))) :: (a, .inr (9, [.ref q1, .ref q4, .ref q7, .ref q10, .int 0, .null, .null, .null, .null, .null, .null, .null])) :: R16) H := by rw [eR16]; exact hP
  have hD : va_D AA ((q10, .inl (C 4, 3, .inr (.inr (.inr (.inr (va_up (va_up (fun _ => none) 0 (some q11)) 1 (some q14))))))) :: (a, .inr (9, [.ref q1, .ref q4, .ref q7, .ref q10, .int 0, .null, .null, .null, .null, .null, .null, .null])) :: R16) := by rw [eR16]; exact hD
  refine lv_iinc (v := 2) (lv' := [(1, .int 2), (0, .ref a)]) hx hb dX9_init_65 hl (k := 0) rfl (by decide) (by decide) rfl (fun ls hl => ?_)
  refine lv_goto (tgt := 47) hx hb dX9_init_68 (by decide) ?_
  refine lv_iload_n hx hb dX9_init_47 rfl (lv_at hl 0 rfl) ?_
  refine lv_iconst (v := 3) hx hb dX9_init_48 (by decide) ?_
  refine lv_icmp_ge (tgt := 71) hx hb dX9_init_49 (by decide) (fun c9 => absurd c9 (by decide)) (fun _ => ?_)
  refine lv_aload_n hx hb dX9_init_52 rfl (lv_at hl 1 rfl) ?_
  refine va_get (D := D) (ci := 9) (v := .ref q10) (C := RX9) (T := TX9) (N := 12) hx hb hts (fun w h => uc_in w (inX9 w h)) hown hK hP 1 rfl rfl 3 (by decide) (hts _ (uc_in _ q_f386)) (fun _ h9 => h9) rfl dX9_init_53 ?_
  refine lv_iload_n hx hb dX9_init_56 rfl (lv_at hl 0 rfl) ?_
  refine va_new (ci := 7) (fs := [.int 0, .int 0, .int 0, .int 0, .int 0, .int 0, .int 0, .int 0, .null, .null, .null, .null, .null, .null, .null, .null]) (C := RX7) (T := TX7) (N := 16) hx hb hts (fun w h => uc_in w (inX7 w h)) tyX7 tyX7_ok hown (hts _ (uc_in _ q_l62)) (hts _ (uc_in _ q_b63)) (hts _ (uc_in _ q_i3)) hK hP hD hS hA rfl (dfX7) (Nat.le_of_ble_eq_true rfl) (Nat.le_of_ble_eq_true rfl) dX9_init_57 (fun q17 H hP hD hS => ?_)
  refine W.cs (cells' := 40) (slots' := 1491) rfl rfl ?_
  refine lv_dup hx hb dX9_init_60 rfl ?_
  refine ciT (host := "SlowNoon") (Cn := RX7) (n := 0) (As := []) (rest := [.ref q17, .int 2, .ref q10]) ⟨hx, hb, hml, hown, hts⟩ uc_in (i_X7 l D C q17 H.size) (hE.1 _ (by decide +kernel)) q_n65 q_i3 q_c66 rfl hvX7_init ⟨(Nat.le_of_ble_eq_true rfl), (Nat.le_of_ble_eq_true rfl)⟩ ⟨(Nat.le_of_ble_eq_true rfl), (Nat.le_of_ble_eq_true rfl)⟩ hE hK hP hD hS hA rfl hl.1 rfl (Nat.le_of_ble_eq_true rfl) dX9_init_61 (fun g18 H locs _ hP hD hS => ?_)
  refine W.cs (cells' := 48) (slots' := 1641) rfl rfl ?_
  have hP : va_P D vwCl (wX7 C q17 g18 ++ ((q10, .inl (C 4, 3, .inr (.inr (.inr (.inr (va_up (va_up (fun _ => none) 0 (some q11)) 1 (some q14))))))) :: (a, .inr (9, [.ref q1, .ref q4, .ref q7, .ref q10, .int 0, .null, .null, .null, .null, .null, .null, .null])) :: R16)) H := hP.flip
  have hD : va_D AA (wX7 C q17 g18 ++ ((q10, .inl (C 4, 3, .inr (.inr (.inr (.inr (va_up (va_up (fun _ => none) 0 (some q11)) 1 (some q14))))))) :: (a, .inr (9, [.ref q1, .ref q4, .ref q7, .ref q10, .int 0, .null, .null, .null, .null, .null, .null, .null])) :: R16)) := hD.flip
  refine va_astq (r := (RX7, TX7, 16)) hx hb hK hP hD hS 9 4 0 7 rfl rfl rfl rfl (vp_in_iff.mpr ⟨by decide, by decide⟩) dX9_init_64 (fun H locs hP hD hS => ?_)
  have hP : va_P D vwCl (((q10, .inl (C 4, 3, .inr (.inr (.inr (.inr (va_up (va_up (va_up (fun _ => none) 0 (some q11)) 1 (some q14)) 2 (some q17))))))) :: (a, .inr (9, [.ref q1, .ref q4, .ref q7, .ref q10, .int 0, .null, .null, .null, .null, .null, .null, .null])) :: R16) ++ wX7 C q17 g18) H := va_P.flip (w1 := wX7 C q17 g18) hP
  have hD : va_D AA (((q10, .inl (C 4, 3, .inr (.inr (.inr (.inr (va_up (va_up (va_up (fun _ => none) 0 (some q11)) 1 (some q14)) 2 (some q17))))))) :: (a, .inr (9, [.ref q1, .ref q4, .ref q7, .ref q10, .int 0, .null, .null, .null, .null, .null, .null, .null])) :: R16) ++ wX7 C q17 g18) := va_D.flip (w1 := wX7 C q17 g18) hD
  obtain ⟨R19, eR19⟩ : ∃ RR : va_W, RR = R16 ++ wX7 C q17 g18 := ⟨_, rfl⟩
  have hP : va_P D vwCl ((q10, .inl (C 4, 3, .inr (.inr (.inr (.inr (va_up (va_up (va_up (fun _ => none) 0 (some q11)) 1 (some q14)) 2 (some q17))))))) :: (a, .inr (9, [.ref q1, .ref q4, .ref q7, .ref q10, .int 0, .null, .null, .null, .null, .null, .null, .null])) :: R19) H := by rw [eR19]; exact hP
  have hD : va_D AA ((q10, .inl (C 4, 3, .inr (.inr (.inr (.inr (va_up (va_up (va_up (fun _ => none) 0 (some q11)) 1 (some q14)) 2 (some q17))))))) :: (a, .inr (9, [.ref q1, .ref q4, .ref q7, .ref q10, .int 0, .null, .null, .null, .null, .null, .null, .null])) :: R19) := by rw [eR19]; exact hD
  refine lv_iinc (v := 3) (lv' := [(1, .int 3), (0, .ref a)]) hx hb dX9_init_65 hl (k := 0) rfl (by decide) (by decide) rfl (fun ls hl => ?_)
  refine lv_goto (tgt := 47) hx hb dX9_init_68 (by decide) ?_
  refine lv_iload_n hx hb dX9_init_47 rfl (lv_at hl 0 rfl) ?_
  refine lv_iconst (v := 3) hx hb dX9_init_48 (by decide) ?_
  refine lv_icmp_ge (tgt := 71) hx hb dX9_init_49 (by decide) (fun _ => ?_) (fun c9 => absurd (by decide) c9)
  refine lv_aload_n hx hb dX9_init_71 rfl (lv_at hl 1 rfl) ?_
  refine va_new (ci := 5) (fs := [.int 0, .int 0, .null, .null]) (C := RX5) (T := TX5) (N := 4) hx hb hts (fun w h => uc_in w (inX5 w h)) tyX5 tyX5_ok hown (hts _ (uc_in _ q_l153)) (hts _ (uc_in _ q_b154)) (hts _ (uc_in _ q_i4)) hK hP hD hS hA rfl (dfX5) (Nat.le_of_ble_eq_true rfl) (Nat.le_of_ble_eq_true rfl) dX9_init_72 (fun q20 H hP hD hS => ?_)
  refine W.cs (cells' := 49) (slots' := 1645) rfl rfl ?_
  refine lv_dup hx hb dX9_init_75 rfl ?_
  refine ciT (host := "SlowNoon") (Cn := RX5) (n := 0) (As := []) (rest := [.ref q20, .ref a]) ⟨hx, hb, hml, hown, hts⟩ uc_in (i_X5 l D C q20 H.size) (hE.1 _ (by decide +kernel)) q_n156 q_i4 q_c157 rfl hvX5_init ⟨(Nat.le_of_ble_eq_true rfl), (Nat.le_of_ble_eq_true rfl)⟩ ⟨(Nat.le_of_ble_eq_true rfl), (Nat.le_of_ble_eq_true rfl)⟩ hE hK hP hD hS hA rfl hl.1 rfl (Nat.le_of_ble_eq_true rfl) dX9_init_76 (fun g21 H locs _ hP hD hS => ?_)
  refine W.cs (cells' := 58) (slots' := 1701) rfl rfl ?_
  obtain ⟨R22, eR22⟩ : ∃ RR : va_W, RR = R19 ++ wX5 C q20 g21 := ⟨_, rfl⟩
  have hP : va_P D vwCl ((q10, .inl (C 4, 3, .inr (.inr (.inr (.inr (va_up (va_up (va_up (fun _ => none) 0 (some q11)) 1 (some q14)) 2 (some q17))))))) :: (a, .inr (9, [.ref q1, .ref q4, .ref q7, .ref q10, .int 0, .null, .null, .null, .null, .null, .null, .null])) :: R22) H := by rw [eR22]; exact hP
  have hD : va_D AA ((q10, .inl (C 4, 3, .inr (.inr (.inr (.inr (va_up (va_up (va_up (fun _ => none) 0 (some q11)) 1 (some q14)) 2 (some q17))))))) :: (a, .inr (9, [.ref q1, .ref q4, .ref q7, .ref q10, .int 0, .null, .null, .null, .null, .null, .null, .null])) :: R22) := by rw [eR22]; exact hD
  refine va_putF (D := D) (ci := 9) (v := .ref q20) (ty := .object "SlowNoon$Street") (C := RX9) (T := TX9) (N := 12) hx hb hts (fun w h => uc_in w (inX9 w h)) tyX9 tyX9_ok nmX9 hown hK hP hD hS 1 rfl rfl 5 (by decide) (hts _ (uc_in _ q_f388)) (fun _ h9 => h9) rfl hnm rfl (by decide +kernel) rfl rfl (Nat.le_of_ble_eq_true rfl) dX9_init_79 (fun H locs hP hD hS => ?_)
  have hP : va_P D vwCl ((q10, .inl (C 4, 3, .inr (.inr (.inr (.inr (va_up (va_up (va_up (fun _ => none) 0 (some q11)) 1 (some q14)) 2 (some q17))))))) :: (a, .inr (9, [.ref q1, .ref q4, .ref q7, .ref q10, .int 0, .ref q20, .null, .null, .null, .null, .null, .null])) :: R22) H := hP
  have hD : va_D AA ((q10, .inl (C 4, 3, .inr (.inr (.inr (.inr (va_up (va_up (va_up (fun _ => none) 0 (some q11)) 1 (some q14)) 2 (some q17))))))) :: (a, .inr (9, [.ref q1, .ref q4, .ref q7, .ref q10, .int 0, .ref q20, .null, .null, .null, .null, .null, .null])) :: R22) := hD
  refine lv_aload_n hx hb dX9_init_82 rfl (lv_at hl 1 rfl) ?_
  refine lv_iconst (v := 4) hx hb dX9_init_83 (by decide) ?_
  refine nx_R hx hb hown (hts _ (uc_in _ q_l185)) hAOR hK hP hD hS hA (n := 4) (N' := 4) (by decide) (by decide) (Nat.le_of_ble_eq_true rfl) (Nat.le_of_ble_eq_true rfl) (Nat.le_of_ble_eq_true rfl) dX9_init_84 (fun q23 H hP hD hS => ?_)
  have hP : va_P D vwCl ((q23, .inl (C 5, 4, .inr (.inr (.inr (.inr (fun _ => none)))))) :: (q10, .inl (C 4, 3, .inr (.inr (.inr (.inr (va_up (va_up (va_up (fun _ => none) 0 (some q11)) 1 (some q14)) 2 (some q17))))))) :: (a, .inr (9, [.ref q1, .ref q4, .ref q7, .ref q10, .int 0, .ref q20, .null, .null, .null, .null, .null, .null])) :: R22) H := hP.flip
  have hD : va_D AA ((q23, .inl (C 5, 4, .inr (.inr (.inr (.inr (fun _ => none)))))) :: (q10, .inl (C 4, 3, .inr (.inr (.inr (.inr (va_up (va_up (va_up (fun _ => none) 0 (some q11)) 1 (some q14)) 2 (some q17))))))) :: (a, .inr (9, [.ref q1, .ref q4, .ref q7, .ref q10, .int 0, .ref q20, .null, .null, .null, .null, .null, .null])) :: R22) := hD.flip
  refine W.cs (cells' := 59) (slots' := 1705) rfl rfl ?_
  refine va_putF (D := D) (ci := 9) (v := .ref q23) (ty := .array (.object "SlowNoon$Row")) (C := RX9) (T := TX9) (N := 12) hx hb hts (fun w h => uc_in w (inX9 w h)) tyX9 tyX9_ok nmX9 hown hK hP hD hS 2 rfl rfl 6 (by decide) (hts _ (uc_in _ q_f389)) (fun _ h9 => h9) rfl hnm rfl (by decide +kernel) rfl rfl (Nat.le_of_ble_eq_true rfl) dX9_init_87 (fun H locs hP hD hS => ?_)
  have hP : va_P D vwCl ((q23, .inl (C 5, 4, .inr (.inr (.inr (.inr (fun _ => none)))))) :: (q10, .inl (C 4, 3, .inr (.inr (.inr (.inr (va_up (va_up (va_up (fun _ => none) 0 (some q11)) 1 (some q14)) 2 (some q17))))))) :: (a, .inr (9, [.ref q1, .ref q4, .ref q7, .ref q10, .int 0, .ref q20, .ref q23, .null, .null, .null, .null, .null])) :: R22) H := hP
  have hD : va_D AA ((q23, .inl (C 5, 4, .inr (.inr (.inr (.inr (fun _ => none)))))) :: (q10, .inl (C 4, 3, .inr (.inr (.inr (.inr (va_up (va_up (va_up (fun _ => none) 0 (some q11)) 1 (some q14)) 2 (some q17))))))) :: (a, .inr (9, [.ref q1, .ref q4, .ref q7, .ref q10, .int 0, .ref q20, .ref q23, .null, .null, .null, .null, .null])) :: R22) := hD
  refine lv_iconst (v := 0) hx hb dX9_init_90 (by decide) ?_
  refine lv_istore_n (lv' := [(1, .int 0), (0, .ref a)]) hx hb dX9_init_91 rfl hl (by decide) rfl (fun ls hl => ?_)
  refine lv_iload_n hx hb dX9_init_92 rfl (lv_at hl 0 rfl) ?_
  refine lv_iconst (v := 4) hx hb dX9_init_93 (by decide) ?_
  refine lv_icmp_ge (tgt := 116) hx hb dX9_init_94 (by decide) (fun c9 => absurd c9 (by decide)) (fun _ => ?_)
  refine lv_aload_n hx hb dX9_init_97 rfl (lv_at hl 1 rfl) ?_
  refine va_get (D := D) (ci := 9) (v := .ref q23) (C := RX9) (T := TX9) (N := 12) hx hb hts (fun w h => uc_in w (inX9 w h)) hown hK hP 2 rfl rfl 6 (by decide) (hts _ (uc_in _ q_f389)) (fun _ h9 => h9) rfl dX9_init_98 ?_
  refine lv_iload_n hx hb dX9_init_101 rfl (lv_at hl 0 rfl) ?_
  refine va_new (ci := 3) (fs := [.int 0, .int 0, .null]) (C := RX3) (T := TX3) (N := 3) hx hb hts (fun w h => uc_in w (inX3 w h)) tyX3 tyX3_ok hown (hts _ (uc_in _ q_l185)) (hts _ (uc_in _ q_b187)) (hts _ (uc_in _ q_i5)) hK hP hD hS hA rfl (dfX3) (Nat.le_of_ble_eq_true rfl) (Nat.le_of_ble_eq_true rfl) dX9_init_102 (fun q24 H hP hD hS => ?_)
  refine W.cs (cells' := 60) (slots' := 1708) rfl rfl ?_
  refine lv_dup hx hb dX9_init_105 rfl ?_
  refine ciT (host := "SlowNoon") (Cn := RX3) (n := 0) (As := []) (rest := [.ref q24, .int 0, .ref q23]) ⟨hx, hb, hml, hown, hts⟩ uc_in (i_X3 l D C q24 H.size) (hE.1 _ (by decide +kernel)) q_n189 q_i5 q_c190 rfl hvX3_init ⟨(Nat.le_of_ble_eq_true rfl), (Nat.le_of_ble_eq_true rfl)⟩ ⟨(Nat.le_of_ble_eq_true rfl), (Nat.le_of_ble_eq_true rfl)⟩ hE hK hP hD hS hA rfl hl.1 rfl (Nat.le_of_ble_eq_true rfl) dX9_init_106 (fun g25 H locs _ hP hD hS => ?_)
  refine W.cs (cells' := 61) (slots' := 1768) rfl rfl ?_
  have hP : va_P D vwCl (wX3 C q24 g25 ++ ((q23, .inl (C 5, 4, .inr (.inr (.inr (.inr (fun _ => none)))))) :: (q10, .inl (C 4, 3, .inr (.inr (.inr (.inr (va_up (va_up (va_up (fun _ => none) 0 (some q11)) 1 (some q14)) 2 (some q17))))))) :: (a, .inr (9, [.ref q1, .ref q4, .ref q7, .ref q10, .int 0, .ref q20, .ref q23, .null, .null, .null, .null, .null])) :: R22)) H := hP.flip
  have hD : va_D AA (wX3 C q24 g25 ++ ((q23, .inl (C 5, 4, .inr (.inr (.inr (.inr (fun _ => none)))))) :: (q10, .inl (C 4, 3, .inr (.inr (.inr (.inr (va_up (va_up (va_up (fun _ => none) 0 (some q11)) 1 (some q14)) 2 (some q17))))))) :: (a, .inr (9, [.ref q1, .ref q4, .ref q7, .ref q10, .int 0, .ref q20, .ref q23, .null, .null, .null, .null, .null])) :: R22)) := hD.flip
  refine va_astq (r := (RX3, TX3, 3)) hx hb hK hP hD hS 2 5 0 3 rfl rfl rfl rfl (vp_in_iff.mpr ⟨by decide, by decide⟩) dX9_init_109 (fun H locs hP hD hS => ?_)
  have hP : va_P D vwCl (((q23, .inl (C 5, 4, .inr (.inr (.inr (.inr (va_up (fun _ => none) 0 (some q24))))))) :: (q10, .inl (C 4, 3, .inr (.inr (.inr (.inr (va_up (va_up (va_up (fun _ => none) 0 (some q11)) 1 (some q14)) 2 (some q17))))))) :: (a, .inr (9, [.ref q1, .ref q4, .ref q7, .ref q10, .int 0, .ref q20, .ref q23, .null, .null, .null, .null, .null])) :: R22) ++ wX3 C q24 g25) H := va_P.flip (w1 := wX3 C q24 g25) hP
  have hD : va_D AA (((q23, .inl (C 5, 4, .inr (.inr (.inr (.inr (va_up (fun _ => none) 0 (some q24))))))) :: (q10, .inl (C 4, 3, .inr (.inr (.inr (.inr (va_up (va_up (va_up (fun _ => none) 0 (some q11)) 1 (some q14)) 2 (some q17))))))) :: (a, .inr (9, [.ref q1, .ref q4, .ref q7, .ref q10, .int 0, .ref q20, .ref q23, .null, .null, .null, .null, .null])) :: R22) ++ wX3 C q24 g25) := va_D.flip (w1 := wX3 C q24 g25) hD
  obtain ⟨R26, eR26⟩ : ∃ RR : va_W, RR = R22 ++ wX3 C q24 g25 := ⟨_, rfl⟩
  have hP : va_P D vwCl ((q23, .inl (C 5, 4, .inr (.inr (.inr (.inr (va_up (fun _ => none) 0 (some q24))))))) :: (q10, .inl (C 4, 3, .inr (.inr (.inr (.inr (va_up (va_up (va_up (fun _ => none) 0 (some q11)) 1 (some q14)) 2 (some q17))))))) :: (a, .inr (9, [.ref q1, .ref q4, .ref q7, .ref q10, .int 0, .ref q20, .ref q23, .null, .null, .null, .null, .null])) :: R26) H := by rw [eR26]; exact hP
  have hD : va_D AA ((q23, .inl (C 5, 4, .inr (.inr (.inr (.inr (va_up (fun _ => none) 0 (some q24))))))) :: (q10, .inl (C 4, 3, .inr (.inr (.inr (.inr (va_up (va_up (va_up (fun _ => none) 0 (some q11)) 1 (some q14)) 2 (some q17))))))) :: (a, .inr (9, [.ref q1, .ref q4, .ref q7, .ref q10, .int 0, .ref q20, .ref q23, .null, .null, .null, .null, .null])) :: R26) := by rw [eR26]; exact hD
  refine lv_iinc (v := 1) (lv' := [(1, .int 1), (0, .ref a)]) hx hb dX9_init_110 hl (k := 0) rfl (by decide) (by decide) rfl (fun ls hl => ?_)
  refine lv_goto (tgt := 92) hx hb dX9_init_113 (by decide) ?_
  refine lv_iload_n hx hb dX9_init_92 rfl (lv_at hl 0 rfl) ?_
  refine lv_iconst (v := 4) hx hb dX9_init_93 (by decide) ?_
  refine lv_icmp_ge (tgt := 116) hx hb dX9_init_94 (by decide) (fun c9 => absurd c9 (by decide)) (fun _ => ?_)
  refine lv_aload_n hx hb dX9_init_97 rfl (lv_at hl 1 rfl) ?_
  refine va_get (D := D) (ci := 9) (v := .ref q23) (C := RX9) (T := TX9) (N := 12) hx hb hts (fun w h => uc_in w (inX9 w h)) hown hK hP 2 rfl rfl 6 (by decide) (hts _ (uc_in _ q_f389)) (fun _ h9 => h9) rfl dX9_init_98 ?_
  refine lv_iload_n hx hb dX9_init_101 rfl (lv_at hl 0 rfl) ?_
  refine va_new (ci := 3) (fs := [.int 0, .int 0, .null]) (C := RX3) (T := TX3) (N := 3) hx hb hts (fun w h => uc_in w (inX3 w h)) tyX3 tyX3_ok hown (hts _ (uc_in _ q_l185)) (hts _ (uc_in _ q_b187)) (hts _ (uc_in _ q_i5)) hK hP hD hS hA rfl (dfX3) (Nat.le_of_ble_eq_true rfl) (Nat.le_of_ble_eq_true rfl) dX9_init_102 (fun q27 H hP hD hS => ?_)
  refine W.cs (cells' := 62) (slots' := 1771) rfl rfl ?_
  refine lv_dup hx hb dX9_init_105 rfl ?_
  refine ciT (host := "SlowNoon") (Cn := RX3) (n := 0) (As := []) (rest := [.ref q27, .int 1, .ref q23]) ⟨hx, hb, hml, hown, hts⟩ uc_in (i_X3 l D C q27 H.size) (hE.1 _ (by decide +kernel)) q_n189 q_i5 q_c190 rfl hvX3_init ⟨(Nat.le_of_ble_eq_true rfl), (Nat.le_of_ble_eq_true rfl)⟩ ⟨(Nat.le_of_ble_eq_true rfl), (Nat.le_of_ble_eq_true rfl)⟩ hE hK hP hD hS hA rfl hl.1 rfl (Nat.le_of_ble_eq_true rfl) dX9_init_106 (fun g28 H locs _ hP hD hS => ?_)
  refine W.cs (cells' := 63) (slots' := 1831) rfl rfl ?_
  have hP : va_P D vwCl (wX3 C q27 g28 ++ ((q23, .inl (C 5, 4, .inr (.inr (.inr (.inr (va_up (fun _ => none) 0 (some q24))))))) :: (q10, .inl (C 4, 3, .inr (.inr (.inr (.inr (va_up (va_up (va_up (fun _ => none) 0 (some q11)) 1 (some q14)) 2 (some q17))))))) :: (a, .inr (9, [.ref q1, .ref q4, .ref q7, .ref q10, .int 0, .ref q20, .ref q23, .null, .null, .null, .null, .null])) :: R26)) H := hP.flip
  have hD : va_D AA (wX3 C q27 g28 ++ ((q23, .inl (C 5, 4, .inr (.inr (.inr (.inr (va_up (fun _ => none) 0 (some q24))))))) :: (q10, .inl (C 4, 3, .inr (.inr (.inr (.inr (va_up (va_up (va_up (fun _ => none) 0 (some q11)) 1 (some q14)) 2 (some q17))))))) :: (a, .inr (9, [.ref q1, .ref q4, .ref q7, .ref q10, .int 0, .ref q20, .ref q23, .null, .null, .null, .null, .null])) :: R26)) := hD.flip
  refine va_astq (r := (RX3, TX3, 3)) hx hb hK hP hD hS 2 5 0 3 rfl rfl rfl rfl (vp_in_iff.mpr ⟨by decide, by decide⟩) dX9_init_109 (fun H locs hP hD hS => ?_)
  have hP : va_P D vwCl (((q23, .inl (C 5, 4, .inr (.inr (.inr (.inr (va_up (va_up (fun _ => none) 0 (some q24)) 1 (some q27))))))) :: (q10, .inl (C 4, 3, .inr (.inr (.inr (.inr (va_up (va_up (va_up (fun _ => none) 0 (some q11)) 1 (some q14)) 2 (some q17))))))) :: (a, .inr (9, [.ref q1, .ref q4, .ref q7, .ref q10, .int 0, .ref q20, .ref q23, .null, .null, .null, .null, .null])) :: R26) ++ wX3 C q27 g28) H := va_P.flip (w1 := wX3 C q27 g28) hP
  have hD : va_D AA (((q23, .inl (C 5, 4, .inr (.inr (.inr (.inr (va_up (va_up (fun _ => none) 0 (some q24)) 1 (some q27))))))) :: (q10, .inl (C 4, 3, .inr (.inr (.inr (.inr (va_up (va_up (va_up (fun _ => none) 0 (some q11)) 1 (some q14)) 2 (some q17))))))) :: (a, .inr (9, [.ref q1, .ref q4, .ref q7, .ref q10, .int 0, .ref q20, .ref q23, .null, .null, .null, .null, .null])) :: R26) ++ wX3 C q27 g28) := va_D.flip (w1 := wX3 C q27 g28) hD
  obtain ⟨R29, eR29⟩ : ∃ RR : va_W, RR = R26 ++ wX3 C q27 g28 := ⟨_, rfl⟩
  have hP : va_P D vwCl ((q23, .inl (C 5, 4, .inr (.inr (.inr (.inr (va_up (va_up (fun _ => none) 0 (some q24)) 1 (some q27))))))) :: (q10, .inl (C 4, 3, .inr (.inr (.inr (.inr (va_up (va_up (va_up (fun _ => none) 0 (some q11)) 1 (some q14)) 2 (some q17))))))) :: (a, .inr (9, [.ref q1, .ref q4, .ref q7, .ref q10, .int 0, .ref q20, .ref q23, .null, .null, .null, .null, .null])) :: R29) H := by rw [eR29]; exact hP
  have hD : va_D AA ((q23, .inl (C 5, 4, .inr (.inr (.inr (.inr (va_up (va_up (fun _ => none) 0 (some q24)) 1 (some q27))))))) :: (q10, .inl (C 4, 3, .inr (.inr (.inr (.inr (va_up (va_up (va_up (fun _ => none) 0 (some q11)) 1 (some q14)) 2 (some q17))))))) :: (a, .inr (9, [.ref q1, .ref q4, .ref q7, .ref q10, .int 0, .ref q20, .ref q23, .null, .null, .null, .null, .null])) :: R29) := by rw [eR29]; exact hD
  refine lv_iinc (v := 2) (lv' := [(1, .int 2), (0, .ref a)]) hx hb dX9_init_110 hl (k := 0) rfl (by decide) (by decide) rfl (fun ls hl => ?_)
  refine lv_goto (tgt := 92) hx hb dX9_init_113 (by decide) ?_
  refine lv_iload_n hx hb dX9_init_92 rfl (lv_at hl 0 rfl) ?_
  refine lv_iconst (v := 4) hx hb dX9_init_93 (by decide) ?_
  refine lv_icmp_ge (tgt := 116) hx hb dX9_init_94 (by decide) (fun c9 => absurd c9 (by decide)) (fun _ => ?_)
  refine lv_aload_n hx hb dX9_init_97 rfl (lv_at hl 1 rfl) ?_
  refine va_get (D := D) (ci := 9) (v := .ref q23) (C := RX9) (T := TX9) (N := 12) hx hb hts (fun w h => uc_in w (inX9 w h)) hown hK hP 2 rfl rfl 6 (by decide) (hts _ (uc_in _ q_f389)) (fun _ h9 => h9) rfl dX9_init_98 ?_
  refine lv_iload_n hx hb dX9_init_101 rfl (lv_at hl 0 rfl) ?_
  refine va_new (ci := 3) (fs := [.int 0, .int 0, .null]) (C := RX3) (T := TX3) (N := 3) hx hb hts (fun w h => uc_in w (inX3 w h)) tyX3 tyX3_ok hown (hts _ (uc_in _ q_l185)) (hts _ (uc_in _ q_b187)) (hts _ (uc_in _ q_i5)) hK hP hD hS hA rfl (dfX3) (Nat.le_of_ble_eq_true rfl) (Nat.le_of_ble_eq_true rfl) dX9_init_102 (fun q30 H hP hD hS => ?_)
  refine W.cs (cells' := 64) (slots' := 1834) rfl rfl ?_
  refine lv_dup hx hb dX9_init_105 rfl ?_
  refine ciT (host := "SlowNoon") (Cn := RX3) (n := 0) (As := []) (rest := [.ref q30, .int 2, .ref q23]) ⟨hx, hb, hml, hown, hts⟩ uc_in (i_X3 l D C q30 H.size) (hE.1 _ (by decide +kernel)) q_n189 q_i5 q_c190 rfl hvX3_init ⟨(Nat.le_of_ble_eq_true rfl), (Nat.le_of_ble_eq_true rfl)⟩ ⟨(Nat.le_of_ble_eq_true rfl), (Nat.le_of_ble_eq_true rfl)⟩ hE hK hP hD hS hA rfl hl.1 rfl (Nat.le_of_ble_eq_true rfl) dX9_init_106 (fun g31 H locs _ hP hD hS => ?_)
  refine W.cs (cells' := 65) (slots' := 1894) rfl rfl ?_
  have hP : va_P D vwCl (wX3 C q30 g31 ++ ((q23, .inl (C 5, 4, .inr (.inr (.inr (.inr (va_up (va_up (fun _ => none) 0 (some q24)) 1 (some q27))))))) :: (q10, .inl (C 4, 3, .inr (.inr (.inr (.inr (va_up (va_up (va_up (fun _ => none) 0 (some q11)) 1 (some q14)) 2 (some q17))))))) :: (a, .inr (9, [.ref q1, .ref q4, .ref q7, .ref q10, .int 0, .ref q20, .ref q23, .null, .null, .null, .null, .null])) :: R29)) H := hP.flip
  have hD : va_D AA (wX3 C q30 g31 ++ ((q23, .inl (C 5, 4, .inr (.inr (.inr (.inr (va_up (va_up (fun _ => none) 0 (some q24)) 1 (some q27))))))) :: (q10, .inl (C 4, 3, .inr (.inr (.inr (.inr (va_up (va_up (va_up (fun _ => none) 0 (some q11)) 1 (some q14)) 2 (some q17))))))) :: (a, .inr (9, [.ref q1, .ref q4, .ref q7, .ref q10, .int 0, .ref q20, .ref q23, .null, .null, .null, .null, .null])) :: R29)) := hD.flip
  refine va_astq (r := (RX3, TX3, 3)) hx hb hK hP hD hS 2 5 0 3 rfl rfl rfl rfl (vp_in_iff.mpr ⟨by decide, by decide⟩) dX9_init_109 (fun H locs hP hD hS => ?_)
  have hP : va_P D vwCl (((q23, .inl (C 5, 4, .inr (.inr (.inr (.inr (va_up (va_up (va_up (fun _ => none) 0 (some q24)) 1 (some q27)) 2 (some q30))))))) :: (q10, .inl (C 4, 3, .inr (.inr (.inr (.inr (va_up (va_up (va_up (fun _ => none) 0 (some q11)) 1 (some q14)) 2 (some q17))))))) :: (a, .inr (9, [.ref q1, .ref q4, .ref q7, .ref q10, .int 0, .ref q20, .ref q23, .null, .null, .null, .null, .null])) :: R29) ++ wX3 C q30 g31) H := va_P.flip (w1 := wX3 C q30 g31) hP
  have hD : va_D AA (((q23, .inl (C 5, 4, .inr (.inr (.inr (.inr (va_up (va_up (va_up (fun _ => none) 0 (some q24)) 1 (some q27)) 2 (some q30))))))) :: (q10, .inl (C 4, 3, .inr (.inr (.inr (.inr (va_up (va_up (va_up (fun _ => none) 0 (some q11)) 1 (some q14)) 2 (some q17))))))) :: (a, .inr (9, [.ref q1, .ref q4, .ref q7, .ref q10, .int 0, .ref q20, .ref q23, .null, .null, .null, .null, .null])) :: R29) ++ wX3 C q30 g31) := va_D.flip (w1 := wX3 C q30 g31) hD
  obtain ⟨R32, eR32⟩ : ∃ RR : va_W, RR = R29 ++ wX3 C q30 g31 := ⟨_, rfl⟩
  have hP : va_P D vwCl ((q23, .inl (C 5, 4, .inr (.inr (.inr (.inr (va_up (va_up (va_up (fun _ => none) 0 (some q24)) 1 (some q27)) 2 (some q30))))))) :: (q10, .inl (C 4, 3, .inr (.inr (.inr (.inr (va_up (va_up (va_up (fun _ => none) 0 (some q11)) 1 (some q14)) 2 (some q17))))))) :: (a, .inr (9, [.ref q1, .ref q4, .ref q7, .ref q10, .int 0, .ref q20, .ref q23, .null, .null, .null, .null, .null])) :: R32) H := by rw [eR32]; exact hP
  have hD : va_D AA ((q23, .inl (C 5, 4, .inr (.inr (.inr (.inr (va_up (va_up (va_up (fun _ => none) 0 (some q24)) 1 (some q27)) 2 (some q30))))))) :: (q10, .inl (C 4, 3, .inr (.inr (.inr (.inr (va_up (va_up (va_up (fun _ => none) 0 (some q11)) 1 (some q14)) 2 (some q17))))))) :: (a, .inr (9, [.ref q1, .ref q4, .ref q7, .ref q10, .int 0, .ref q20, .ref q23, .null, .null, .null, .null, .null])) :: R32) := by rw [eR32]; exact hD
  refine lv_iinc (v := 3) (lv' := [(1, .int 3), (0, .ref a)]) hx hb dX9_init_110 hl (k := 0) rfl (by decide) (by decide) rfl (fun ls hl => ?_)
  refine lv_goto (tgt := 92) hx hb dX9_init_113 (by decide) ?_
  refine lv_iload_n hx hb dX9_init_92 rfl (lv_at hl 0 rfl) ?_
  refine lv_iconst (v := 4) hx hb dX9_init_93 (by decide) ?_
  refine lv_icmp_ge (tgt := 116) hx hb dX9_init_94 (by decide) (fun c9 => absurd c9 (by decide)) (fun _ => ?_)
  refine lv_aload_n hx hb dX9_init_97 rfl (lv_at hl 1 rfl) ?_
  refine va_get (D := D) (ci := 9) (v := .ref q23) (C := RX9) (T := TX9) (N := 12) hx hb hts (fun w h => uc_in w (inX9 w h)) hown hK hP 2 rfl rfl 6 (by decide) (hts _ (uc_in _ q_f389)) (fun _ h9 => h9) rfl dX9_init_98 ?_
  refine lv_iload_n hx hb dX9_init_101 rfl (lv_at hl 0 rfl) ?_
  refine va_new (ci := 3) (fs := [.int 0, .int 0, .null]) (C := RX3) (T := TX3) (N := 3) hx hb hts (fun w h => uc_in w (inX3 w h)) tyX3 tyX3_ok hown (hts _ (uc_in _ q_l185)) (hts _ (uc_in _ q_b187)) (hts _ (uc_in _ q_i5)) hK hP hD hS hA rfl (dfX3) (Nat.le_of_ble_eq_true rfl) (Nat.le_of_ble_eq_true rfl) dX9_init_102 (fun q33 H hP hD hS => ?_)
  refine W.cs (cells' := 66) (slots' := 1897) rfl rfl ?_
  refine lv_dup hx hb dX9_init_105 rfl ?_
  refine ciT (host := "SlowNoon") (Cn := RX3) (n := 0) (As := []) (rest := [.ref q33, .int 3, .ref q23]) ⟨hx, hb, hml, hown, hts⟩ uc_in (i_X3 l D C q33 H.size) (hE.1 _ (by decide +kernel)) q_n189 q_i5 q_c190 rfl hvX3_init ⟨(Nat.le_of_ble_eq_true rfl), (Nat.le_of_ble_eq_true rfl)⟩ ⟨(Nat.le_of_ble_eq_true rfl), (Nat.le_of_ble_eq_true rfl)⟩ hE hK hP hD hS hA rfl hl.1 rfl (Nat.le_of_ble_eq_true rfl) dX9_init_106 (fun g34 H locs _ hP hD hS => ?_)
  refine W.cs (cells' := 67) (slots' := 1957) rfl rfl ?_
  have hP : va_P D vwCl (wX3 C q33 g34 ++ ((q23, .inl (C 5, 4, .inr (.inr (.inr (.inr (va_up (va_up (va_up (fun _ => none) 0 (some q24)) 1 (some q27)) 2 (some q30))))))) :: (q10, .inl (C 4, 3, .inr (.inr (.inr (.inr (va_up (va_up (va_up (fun _ => none) 0 (some q11)) 1 (some q14)) 2 (some q17))))))) :: (a, .inr (9, [.ref q1, .ref q4, .ref q7, .ref q10, .int 0, .ref q20, .ref q23, .null, .null, .null, .null, .null])) :: R32)) H := hP.flip
  have hD : va_D AA (wX3 C q33 g34 ++ ((q23, .inl (C 5, 4, .inr (.inr (.inr (.inr (va_up (va_up (va_up (fun _ => none) 0 (some q24)) 1 (some q27)) 2 (some q30))))))) :: (q10, .inl (C 4, 3, .inr (.inr (.inr (.inr (va_up (va_up (va_up (fun _ => none) 0 (some q11)) 1 (some q14)) 2 (some q17))))))) :: (a, .inr (9, [.ref q1, .ref q4, .ref q7, .ref q10, .int 0, .ref q20, .ref q23, .null, .null, .null, .null, .null])) :: R32)) := hD.flip
  refine va_astq (r := (RX3, TX3, 3)) hx hb hK hP hD hS 2 5 0 3 rfl rfl rfl rfl (vp_in_iff.mpr ⟨by decide, by decide⟩) dX9_init_109 (fun H locs hP hD hS => ?_)
  have hP : va_P D vwCl (((q23, .inl (C 5, 4, .inr (.inr (.inr (.inr (va_up (va_up (va_up (va_up (fun _ => none) 0 (some q24)) 1 (some q27)) 2 (some q30)) 3 (some q33))))))) :: (q10, .inl (C 4, 3, .inr (.inr (.inr (.inr (va_up (va_up (va_up (fun _ => none) 0 (some q11)) 1 (some q14)) 2 (some q17))))))) :: (a, .inr (9, [.ref q1, .ref q4, .ref q7, .ref q10, .int 0, .ref q20, .ref q23, .null, .null, .null, .null, .null])) :: R32) ++ wX3 C q33 g34) H := va_P.flip (w1 := wX3 C q33 g34) hP
  have hD : va_D AA (((q23, .inl (C 5, 4, .inr (.inr (.inr (.inr (va_up (va_up (va_up (va_up (fun _ => none) 0 (some q24)) 1 (some q27)) 2 (some q30)) 3 (some q33))))))) :: (q10, .inl (C 4, 3, .inr (.inr (.inr (.inr (va_up (va_up (va_up (fun _ => none) 0 (some q11)) 1 (some q14)) 2 (some q17))))))) :: (a, .inr (9, [.ref q1, .ref q4, .ref q7, .ref q10, .int 0, .ref q20, .ref q23, .null, .null, .null, .null, .null])) :: R32) ++ wX3 C q33 g34) := va_D.flip (w1 := wX3 C q33 g34) hD
  obtain ⟨R35, eR35⟩ : ∃ RR : va_W, RR = R32 ++ wX3 C q33 g34 := ⟨_, rfl⟩
  have hP : va_P D vwCl ((q23, .inl (C 5, 4, .inr (.inr (.inr (.inr (va_up (va_up (va_up (va_up (fun _ => none) 0 (some q24)) 1 (some q27)) 2 (some q30)) 3 (some q33))))))) :: (q10, .inl (C 4, 3, .inr (.inr (.inr (.inr (va_up (va_up (va_up (fun _ => none) 0 (some q11)) 1 (some q14)) 2 (some q17))))))) :: (a, .inr (9, [.ref q1, .ref q4, .ref q7, .ref q10, .int 0, .ref q20, .ref q23, .null, .null, .null, .null, .null])) :: R35) H := by rw [eR35]; exact hP
  have hD : va_D AA ((q23, .inl (C 5, 4, .inr (.inr (.inr (.inr (va_up (va_up (va_up (va_up (fun _ => none) 0 (some q24)) 1 (some q27)) 2 (some q30)) 3 (some q33))))))) :: (q10, .inl (C 4, 3, .inr (.inr (.inr (.inr (va_up (va_up (va_up (fun _ => none) 0 (some q11)) 1 (some q14)) 2 (some q17))))))) :: (a, .inr (9, [.ref q1, .ref q4, .ref q7, .ref q10, .int 0, .ref q20, .ref q23, .null, .null, .null, .null, .null])) :: R35) := by rw [eR35]; exact hD
  refine lv_iinc (v := 4) (lv' := [(1, .int 4), (0, .ref a)]) hx hb dX9_init_110 hl (k := 0) rfl (by decide) (by decide) rfl (fun ls hl => ?_)
  refine lv_goto (tgt := 92) hx hb dX9_init_113 (by decide) ?_
  refine lv_iload_n hx hb dX9_init_92 rfl (lv_at hl 0 rfl) ?_
  refine lv_iconst (v := 4) hx hb dX9_init_93 (by decide) ?_
  refine lv_icmp_ge (tgt := 116) hx hb dX9_init_94 (by decide) (fun _ => ?_) (fun c9 => absurd (by decide) c9)
  refine lv_aload_n hx hb dX9_init_116 rfl (lv_at hl 1 rfl) ?_
  refine va_new (ci := 1) (fs := [.int 0, .int 0, .int 0, .int 0, .int 0, .int 0, .int 0, .int 0, .null, .null, .null, .null, .null, .null, .null]) (C := RX1) (T := TX1) (N := 15) hx hb hts (fun w h => uc_in w (inX1 w h)) tyX1 tyX1_ok hown (hts _ (uc_in _ q_l210)) (hts _ (uc_in _ q_b211)) (hts _ (uc_in _ q_i6)) hK hP hD hS hA rfl (dfX1) (Nat.le_of_ble_eq_true rfl) (Nat.le_of_ble_eq_true rfl) dX9_init_117 (fun q36 H hP hD hS => ?_)
  refine W.cs (cells' := 68) (slots' := 1972) rfl rfl ?_
  refine lv_dup hx hb dX9_init_120 rfl ?_
  refine ciT (host := "SlowNoon") (Cn := RX1) (n := 0) (As := []) (rest := [.ref q36, .ref a]) ⟨hx, hb, hml, hown, hts⟩ uc_in (i_X1 l D C q36 H.size) (hE.1 _ (by decide +kernel)) q_n213 q_i6 q_c214 rfl hvX1_init ⟨(Nat.le_of_ble_eq_true rfl), (Nat.le_of_ble_eq_true rfl)⟩ ⟨(Nat.le_of_ble_eq_true rfl), (Nat.le_of_ble_eq_true rfl)⟩ hE hK hP hD hS hA rfl hl.1 rfl (Nat.le_of_ble_eq_true rfl) dX9_init_121 (fun g37 H locs _ hP hD hS => ?_)
  refine W.cs (cells' := 145) (slots' := 2497) rfl rfl ?_
  obtain ⟨R38, eR38⟩ : ∃ RR : va_W, RR = R35 ++ wX1 C q36 g37 := ⟨_, rfl⟩
  have hP : va_P D vwCl ((q23, .inl (C 5, 4, .inr (.inr (.inr (.inr (va_up (va_up (va_up (va_up (fun _ => none) 0 (some q24)) 1 (some q27)) 2 (some q30)) 3 (some q33))))))) :: (q10, .inl (C 4, 3, .inr (.inr (.inr (.inr (va_up (va_up (va_up (fun _ => none) 0 (some q11)) 1 (some q14)) 2 (some q17))))))) :: (a, .inr (9, [.ref q1, .ref q4, .ref q7, .ref q10, .int 0, .ref q20, .ref q23, .null, .null, .null, .null, .null])) :: R38) H := by rw [eR38]; exact hP
  have hD : va_D AA ((q23, .inl (C 5, 4, .inr (.inr (.inr (.inr (va_up (va_up (va_up (va_up (fun _ => none) 0 (some q24)) 1 (some q27)) 2 (some q30)) 3 (some q33))))))) :: (q10, .inl (C 4, 3, .inr (.inr (.inr (.inr (va_up (va_up (va_up (fun _ => none) 0 (some q11)) 1 (some q14)) 2 (some q17))))))) :: (a, .inr (9, [.ref q1, .ref q4, .ref q7, .ref q10, .int 0, .ref q20, .ref q23, .null, .null, .null, .null, .null])) :: R38) := by rw [eR38]; exact hD
  refine va_putF (D := D) (ci := 9) (v := .ref q36) (ty := .object "SlowNoon$Mender") (C := RX9) (T := TX9) (N := 12) hx hb hts (fun w h => uc_in w (inX9 w h)) tyX9 tyX9_ok nmX9 hown hK hP hD hS 2 rfl rfl 7 (by decide) (hts _ (uc_in _ q_f390)) (fun _ h9 => h9) rfl hnm rfl (by decide +kernel) rfl rfl (Nat.le_of_ble_eq_true rfl) dX9_init_124 (fun H locs hP hD hS => ?_)
  have hP : va_P D vwCl ((q23, .inl (C 5, 4, .inr (.inr (.inr (.inr (va_up (va_up (va_up (va_up (fun _ => none) 0 (some q24)) 1 (some q27)) 2 (some q30)) 3 (some q33))))))) :: (q10, .inl (C 4, 3, .inr (.inr (.inr (.inr (va_up (va_up (va_up (fun _ => none) 0 (some q11)) 1 (some q14)) 2 (some q17))))))) :: (a, .inr (9, [.ref q1, .ref q4, .ref q7, .ref q10, .int 0, .ref q20, .ref q23, .ref q36, .null, .null, .null, .null])) :: R38) H := hP
  have hD : va_D AA ((q23, .inl (C 5, 4, .inr (.inr (.inr (.inr (va_up (va_up (va_up (va_up (fun _ => none) 0 (some q24)) 1 (some q27)) 2 (some q30)) 3 (some q33))))))) :: (q10, .inl (C 4, 3, .inr (.inr (.inr (.inr (va_up (va_up (va_up (fun _ => none) 0 (some q11)) 1 (some q14)) 2 (some q17))))))) :: (a, .inr (9, [.ref q1, .ref q4, .ref q7, .ref q10, .int 0, .ref q20, .ref q23, .ref q36, .null, .null, .null, .null])) :: R38) := hD
  refine lv_aload_n hx hb dX9_init_127 rfl (lv_at hl 1 rfl) ?_
  refine va_new (ci := 0) (fs := [.int 0, .int 0, .null, .null, .null, .null]) (C := RX0) (T := TX0) (N := 6) hx hb hts (fun w h => uc_in w (inX0 w h)) tyX0 tyX0_ok hown (hts _ (uc_in _ q_l266)) (hts _ (uc_in _ q_b267)) (hts _ (uc_in _ q_i7)) hK hP hD hS hA rfl (dfX0) (Nat.le_of_ble_eq_true rfl) (Nat.le_of_ble_eq_true rfl) dX9_init_128 (fun q39 H hP hD hS => ?_)
  refine W.cs (cells' := 146) (slots' := 2503) rfl rfl ?_
  refine lv_dup hx hb dX9_init_131 rfl ?_
  refine ciT (host := "SlowNoon") (Cn := RX0) (n := 0) (As := []) (rest := [.ref q39, .ref a]) ⟨hx, hb, hml, hown, hts⟩ uc_in (i_X0 l D C q39 H.size) (hE.1 _ (by decide +kernel)) q_n269 q_i7 q_c270 rfl hvX0_init ⟨(Nat.le_of_ble_eq_true rfl), (Nat.le_of_ble_eq_true rfl)⟩ ⟨(Nat.le_of_ble_eq_true rfl), (Nat.le_of_ble_eq_true rfl)⟩ hE hK hP hD hS hA rfl hl.1 rfl (Nat.le_of_ble_eq_true rfl) dX9_init_132 (fun g40 H locs _ hP hD hS => ?_)
  refine W.cs (cells' := 150) (slots' := 2527) rfl rfl ?_
  obtain ⟨R41, eR41⟩ : ∃ RR : va_W, RR = R38 ++ wX0 C q39 g40 := ⟨_, rfl⟩
  have hP : va_P D vwCl ((q23, .inl (C 5, 4, .inr (.inr (.inr (.inr (va_up (va_up (va_up (va_up (fun _ => none) 0 (some q24)) 1 (some q27)) 2 (some q30)) 3 (some q33))))))) :: (q10, .inl (C 4, 3, .inr (.inr (.inr (.inr (va_up (va_up (va_up (fun _ => none) 0 (some q11)) 1 (some q14)) 2 (some q17))))))) :: (a, .inr (9, [.ref q1, .ref q4, .ref q7, .ref q10, .int 0, .ref q20, .ref q23, .ref q36, .null, .null, .null, .null])) :: R41) H := by rw [eR41]; exact hP
  have hD : va_D AA ((q23, .inl (C 5, 4, .inr (.inr (.inr (.inr (va_up (va_up (va_up (va_up (fun _ => none) 0 (some q24)) 1 (some q27)) 2 (some q30)) 3 (some q33))))))) :: (q10, .inl (C 4, 3, .inr (.inr (.inr (.inr (va_up (va_up (va_up (fun _ => none) 0 (some q11)) 1 (some q14)) 2 (some q17))))))) :: (a, .inr (9, [.ref q1, .ref q4, .ref q7, .ref q10, .int 0, .ref q20, .ref q23, .ref q36, .null, .null, .null, .null])) :: R41) := by rw [eR41]; exact hD
  refine va_putF (D := D) (ci := 9) (v := .ref q39) (ty := .object "SlowNoon$Bellman") (C := RX9) (T := TX9) (N := 12) hx hb hts (fun w h => uc_in w (inX9 w h)) tyX9 tyX9_ok nmX9 hown hK hP hD hS 2 rfl rfl 8 (by decide) (hts _ (uc_in _ q_f391)) (fun _ h9 => h9) rfl hnm rfl (by decide +kernel) rfl rfl (Nat.le_of_ble_eq_true rfl) dX9_init_135 (fun H locs hP hD hS => ?_)
  have hP : va_P D vwCl ((q23, .inl (C 5, 4, .inr (.inr (.inr (.inr (va_up (va_up (va_up (va_up (fun _ => none) 0 (some q24)) 1 (some q27)) 2 (some q30)) 3 (some q33))))))) :: (q10, .inl (C 4, 3, .inr (.inr (.inr (.inr (va_up (va_up (va_up (fun _ => none) 0 (some q11)) 1 (some q14)) 2 (some q17))))))) :: (a, .inr (9, [.ref q1, .ref q4, .ref q7, .ref q10, .int 0, .ref q20, .ref q23, .ref q36, .ref q39, .null, .null, .null])) :: R41) H := hP
  have hD : va_D AA ((q23, .inl (C 5, 4, .inr (.inr (.inr (.inr (va_up (va_up (va_up (va_up (fun _ => none) 0 (some q24)) 1 (some q27)) 2 (some q30)) 3 (some q33))))))) :: (q10, .inl (C 4, 3, .inr (.inr (.inr (.inr (va_up (va_up (va_up (fun _ => none) 0 (some q11)) 1 (some q14)) 2 (some q17))))))) :: (a, .inr (9, [.ref q1, .ref q4, .ref q7, .ref q10, .int 0, .ref q20, .ref q23, .ref q36, .ref q39, .null, .null, .null])) :: R41) := hD
  refine lv_aload_n hx hb dX9_init_138 rfl (lv_at hl 1 rfl) ?_
  refine va_new (ci := 2) (fs := [.int 0, .int 0, .int 0, .null, .null, .null]) (C := RX2) (T := TX2) (N := 6) hx hb hts (fun w h => uc_in w (inX2 w h)) tyX2 tyX2_ok hown (hts _ (uc_in _ q_l294)) (hts _ (uc_in _ q_b295)) (hts _ (uc_in _ q_i8)) hK hP hD hS hA rfl (dfX2) (Nat.le_of_ble_eq_true rfl) (Nat.le_of_ble_eq_true rfl) dX9_init_139 (fun q42 H hP hD hS => ?_)
  refine W.cs (cells' := 151) (slots' := 2533) rfl rfl ?_
  refine lv_dup hx hb dX9_init_142 rfl ?_
  refine ciT (host := "SlowNoon") (Cn := RX2) (n := 0) (As := []) (rest := [.ref q42, .ref a]) ⟨hx, hb, hml, hown, hts⟩ uc_in (i_X2 l D C q42 H.size) (hE.1 _ (by decide +kernel)) q_n297 q_i8 q_c298 rfl hvX2_init ⟨(Nat.le_of_ble_eq_true rfl), (Nat.le_of_ble_eq_true rfl)⟩ ⟨(Nat.le_of_ble_eq_true rfl), (Nat.le_of_ble_eq_true rfl)⟩ hE hK hP hD hS hA rfl hl.1 rfl (Nat.le_of_ble_eq_true rfl) dX9_init_143 (fun g43 H locs _ hP hD hS => ?_)
  refine W.cs (cells' := 154) (slots' := 2611) rfl rfl ?_
  obtain ⟨R44, eR44⟩ : ∃ RR : va_W, RR = R41 ++ wX2 C q42 g43 := ⟨_, rfl⟩
  have hP : va_P D vwCl ((q23, .inl (C 5, 4, .inr (.inr (.inr (.inr (va_up (va_up (va_up (va_up (fun _ => none) 0 (some q24)) 1 (some q27)) 2 (some q30)) 3 (some q33))))))) :: (q10, .inl (C 4, 3, .inr (.inr (.inr (.inr (va_up (va_up (va_up (fun _ => none) 0 (some q11)) 1 (some q14)) 2 (some q17))))))) :: (a, .inr (9, [.ref q1, .ref q4, .ref q7, .ref q10, .int 0, .ref q20, .ref q23, .ref q36, .ref q39, .null, .null, .null])) :: R44) H := by rw [eR44]; exact hP
  have hD : va_D AA ((q23, .inl (C 5, 4, .inr (.inr (.inr (.inr (va_up (va_up (va_up (va_up (fun _ => none) 0 (some q24)) 1 (some q27)) 2 (some q30)) 3 (some q33))))))) :: (q10, .inl (C 4, 3, .inr (.inr (.inr (.inr (va_up (va_up (va_up (fun _ => none) 0 (some q11)) 1 (some q14)) 2 (some q17))))))) :: (a, .inr (9, [.ref q1, .ref q4, .ref q7, .ref q10, .int 0, .ref q20, .ref q23, .ref q36, .ref q39, .null, .null, .null])) :: R44) := by rw [eR44]; exact hD
  refine va_putF (D := D) (ci := 9) (v := .ref q42) (ty := .object "SlowNoon$Race") (C := RX9) (T := TX9) (N := 12) hx hb hts (fun w h => uc_in w (inX9 w h)) tyX9 tyX9_ok nmX9 hown hK hP hD hS 2 rfl rfl 9 (by decide) (hts _ (uc_in _ q_f392)) (fun _ h9 => h9) rfl hnm rfl (by decide +kernel) rfl rfl (Nat.le_of_ble_eq_true rfl) dX9_init_146 (fun H locs hP hD hS => ?_)
  have hP : va_P D vwCl ((q23, .inl (C 5, 4, .inr (.inr (.inr (.inr (va_up (va_up (va_up (va_up (fun _ => none) 0 (some q24)) 1 (some q27)) 2 (some q30)) 3 (some q33))))))) :: (q10, .inl (C 4, 3, .inr (.inr (.inr (.inr (va_up (va_up (va_up (fun _ => none) 0 (some q11)) 1 (some q14)) 2 (some q17))))))) :: (a, .inr (9, [.ref q1, .ref q4, .ref q7, .ref q10, .int 0, .ref q20, .ref q23, .ref q36, .ref q39, .ref q42, .null, .null])) :: R44) H := hP
  have hD : va_D AA ((q23, .inl (C 5, 4, .inr (.inr (.inr (.inr (va_up (va_up (va_up (va_up (fun _ => none) 0 (some q24)) 1 (some q27)) 2 (some q30)) 3 (some q33))))))) :: (q10, .inl (C 4, 3, .inr (.inr (.inr (.inr (va_up (va_up (va_up (fun _ => none) 0 (some q11)) 1 (some q14)) 2 (some q17))))))) :: (a, .inr (9, [.ref q1, .ref q4, .ref q7, .ref q10, .int 0, .ref q20, .ref q23, .ref q36, .ref q39, .ref q42, .null, .null])) :: R44) := hD
  refine lv_aload_n hx hb dX9_init_149 rfl (lv_at hl 1 rfl) ?_
  refine va_new (ci := 8) (fs := [.int 0, .int 0, .int 0, .int 0, .int 0, .int 0, .null, .null, .null]) (C := RX8) (T := TX8) (N := 9) hx hb hts (fun w h => uc_in w (inX8 w h)) tyX8 tyX8_ok hown (hts _ (uc_in _ q_l322)) (hts _ (uc_in _ q_b323)) (hts _ (uc_in _ q_i9)) hK hP hD hS hA rfl (dfX8) (Nat.le_of_ble_eq_true rfl) (Nat.le_of_ble_eq_true rfl) dX9_init_150 (fun q45 H hP hD hS => ?_)
  refine W.cs (cells' := 155) (slots' := 2620) rfl rfl ?_
  refine lv_dup hx hb dX9_init_153 rfl ?_
  refine ciT (host := "SlowNoon") (Cn := RX8) (n := 0) (As := []) (rest := [.ref q45, .ref a]) ⟨hx, hb, hml, hown, hts⟩ uc_in (i_X8 l D C q45 H.size) (hE.1 _ (by decide +kernel)) q_n325 q_i9 q_c326 rfl hvX8_init ⟨(Nat.le_of_ble_eq_true rfl), (Nat.le_of_ble_eq_true rfl)⟩ ⟨(Nat.le_of_ble_eq_true rfl), (Nat.le_of_ble_eq_true rfl)⟩ hE hK hP hD hS hA rfl hl.1 rfl (Nat.le_of_ble_eq_true rfl) dX9_init_154 (fun g46 H locs _ hP hD hS => ?_)
  refine W.cs (cells' := 158) (slots' := 2686) rfl rfl ?_
  obtain ⟨R47, eR47⟩ : ∃ RR : va_W, RR = R44 ++ wX8 C q45 g46 := ⟨_, rfl⟩
  have hP : va_P D vwCl ((q23, .inl (C 5, 4, .inr (.inr (.inr (.inr (va_up (va_up (va_up (va_up (fun _ => none) 0 (some q24)) 1 (some q27)) 2 (some q30)) 3 (some q33))))))) :: (q10, .inl (C 4, 3, .inr (.inr (.inr (.inr (va_up (va_up (va_up (fun _ => none) 0 (some q11)) 1 (some q14)) 2 (some q17))))))) :: (a, .inr (9, [.ref q1, .ref q4, .ref q7, .ref q10, .int 0, .ref q20, .ref q23, .ref q36, .ref q39, .ref q42, .null, .null])) :: R47) H := by rw [eR47]; exact hP
  have hD : va_D AA ((q23, .inl (C 5, 4, .inr (.inr (.inr (.inr (va_up (va_up (va_up (va_up (fun _ => none) 0 (some q24)) 1 (some q27)) 2 (some q30)) 3 (some q33))))))) :: (q10, .inl (C 4, 3, .inr (.inr (.inr (.inr (va_up (va_up (va_up (fun _ => none) 0 (some q11)) 1 (some q14)) 2 (some q17))))))) :: (a, .inr (9, [.ref q1, .ref q4, .ref q7, .ref q10, .int 0, .ref q20, .ref q23, .ref q36, .ref q39, .ref q42, .null, .null])) :: R47) := by rw [eR47]; exact hD
  refine va_putF (D := D) (ci := 9) (v := .ref q45) (ty := .object "SlowNoon$Witness") (C := RX9) (T := TX9) (N := 12) hx hb hts (fun w h => uc_in w (inX9 w h)) tyX9 tyX9_ok nmX9 hown hK hP hD hS 2 rfl rfl 10 (by decide) (hts _ (uc_in _ q_f393)) (fun _ h9 => h9) rfl hnm rfl (by decide +kernel) rfl rfl (Nat.le_of_ble_eq_true rfl) dX9_init_157 (fun H locs hP hD hS => ?_)
  have hP : va_P D vwCl ((q23, .inl (C 5, 4, .inr (.inr (.inr (.inr (va_up (va_up (va_up (va_up (fun _ => none) 0 (some q24)) 1 (some q27)) 2 (some q30)) 3 (some q33))))))) :: (q10, .inl (C 4, 3, .inr (.inr (.inr (.inr (va_up (va_up (va_up (fun _ => none) 0 (some q11)) 1 (some q14)) 2 (some q17))))))) :: (a, .inr (9, [.ref q1, .ref q4, .ref q7, .ref q10, .int 0, .ref q20, .ref q23, .ref q36, .ref q39, .ref q42, .ref q45, .null])) :: R47) H := hP
  have hD : va_D AA ((q23, .inl (C 5, 4, .inr (.inr (.inr (.inr (va_up (va_up (va_up (va_up (fun _ => none) 0 (some q24)) 1 (some q27)) 2 (some q30)) 3 (some q33))))))) :: (q10, .inl (C 4, 3, .inr (.inr (.inr (.inr (va_up (va_up (va_up (fun _ => none) 0 (some q11)) 1 (some q14)) 2 (some q17))))))) :: (a, .inr (9, [.ref q1, .ref q4, .ref q7, .ref q10, .int 0, .ref q20, .ref q23, .ref q36, .ref q39, .ref q42, .ref q45, .null])) :: R47) := hD
  refine lv_aload_n hx hb dX9_init_160 rfl (lv_at hl 1 rfl) ?_
  refine va_new (ci := 4) (fs := [.int 0, .int 0, .null, .long 0]) (C := RX4) (T := TX4) (N := 4) hx hb hts (fun w h => uc_in w (inX4 w h)) tyX4 tyX4_ok hown (hts _ (uc_in _ q_l361)) (hts _ (uc_in _ q_b362)) (hts _ (uc_in _ q_i10)) hK hP hD hS hA rfl (dfX4) (Nat.le_of_ble_eq_true rfl) (Nat.le_of_ble_eq_true rfl) dX9_init_161 (fun q48 H hP hD hS => ?_)
  refine W.cs (cells' := 159) (slots' := 2690) rfl rfl ?_
  refine lv_dup hx hb dX9_init_164 rfl ?_
  refine ciT (host := "SlowNoon") (Cn := RX4) (n := 0) (As := []) (rest := [.ref q48, .ref a]) ⟨hx, hb, hml, hown, hts⟩ uc_in (i_X4 l D C q48 H.size) (hE.1 _ (by decide +kernel)) q_n364 q_i10 q_c365 rfl hvX4_init ⟨(Nat.le_of_ble_eq_true rfl), (Nat.le_of_ble_eq_true rfl)⟩ ⟨(Nat.le_of_ble_eq_true rfl), (Nat.le_of_ble_eq_true rfl)⟩ hE hK hP hD hS hA rfl hl.1 rfl (Nat.le_of_ble_eq_true rfl) dX9_init_165 (fun g49 H locs _ hP hD hS => ?_)
  refine W.cs (cells' := 160) (slots' := 2696) rfl rfl ?_
  obtain ⟨R50, eR50⟩ : ∃ RR : va_W, RR = R47 ++ wX4 C q48 g49 := ⟨_, rfl⟩
  have hP : va_P D vwCl ((q23, .inl (C 5, 4, .inr (.inr (.inr (.inr (va_up (va_up (va_up (va_up (fun _ => none) 0 (some q24)) 1 (some q27)) 2 (some q30)) 3 (some q33))))))) :: (q10, .inl (C 4, 3, .inr (.inr (.inr (.inr (va_up (va_up (va_up (fun _ => none) 0 (some q11)) 1 (some q14)) 2 (some q17))))))) :: (a, .inr (9, [.ref q1, .ref q4, .ref q7, .ref q10, .int 0, .ref q20, .ref q23, .ref q36, .ref q39, .ref q42, .ref q45, .null])) :: R50) H := by rw [eR50]; exact hP
  have hD : va_D AA ((q23, .inl (C 5, 4, .inr (.inr (.inr (.inr (va_up (va_up (va_up (va_up (fun _ => none) 0 (some q24)) 1 (some q27)) 2 (some q30)) 3 (some q33))))))) :: (q10, .inl (C 4, 3, .inr (.inr (.inr (.inr (va_up (va_up (va_up (fun _ => none) 0 (some q11)) 1 (some q14)) 2 (some q17))))))) :: (a, .inr (9, [.ref q1, .ref q4, .ref q7, .ref q10, .int 0, .ref q20, .ref q23, .ref q36, .ref q39, .ref q42, .ref q45, .null])) :: R50) := by rw [eR50]; exact hD
  refine va_putF (D := D) (ci := 9) (v := .ref q48) (ty := .object "SlowNoon$Sleeper") (C := RX9) (T := TX9) (N := 12) hx hb hts (fun w h => uc_in w (inX9 w h)) tyX9 tyX9_ok nmX9 hown hK hP hD hS 2 rfl rfl 11 (by decide) (hts _ (uc_in _ q_f394)) (fun _ h9 => h9) rfl hnm rfl (by decide +kernel) rfl rfl (Nat.le_of_ble_eq_true rfl) dX9_init_168 (fun H locs hP hD hS => ?_)
  have hP : va_P D vwCl ((q23, .inl (C 5, 4, .inr (.inr (.inr (.inr (va_up (va_up (va_up (va_up (fun _ => none) 0 (some q24)) 1 (some q27)) 2 (some q30)) 3 (some q33))))))) :: (q10, .inl (C 4, 3, .inr (.inr (.inr (.inr (va_up (va_up (va_up (fun _ => none) 0 (some q11)) 1 (some q14)) 2 (some q17))))))) :: (a, .inr (9, [.ref q1, .ref q4, .ref q7, .ref q10, .int 0, .ref q20, .ref q23, .ref q36, .ref q39, .ref q42, .ref q45, .ref q48])) :: R50) H := hP
  have hD : va_D AA ((q23, .inl (C 5, 4, .inr (.inr (.inr (.inr (va_up (va_up (va_up (va_up (fun _ => none) 0 (some q24)) 1 (some q27)) 2 (some q30)) 3 (some q33))))))) :: (q10, .inl (C 4, 3, .inr (.inr (.inr (.inr (va_up (va_up (va_up (fun _ => none) 0 (some q11)) 1 (some q14)) 2 (some q17))))))) :: (a, .inr (9, [.ref q1, .ref q4, .ref q7, .ref q10, .int 0, .ref q20, .ref q23, .ref q36, .ref q39, .ref q42, .ref q45, .ref q48])) :: R50) := hD
  obtain ⟨U, eU⟩ : ∃ U : Nat → Nat → Nat, U = (fun j => ([cns q1 g2, cns q4 g5, cns q7 g8, cns q11 g12, cns q14 g15, cns q17 g18, cns q20 g21, cns q24 g25, cns q27 g28, cns q30 g31, cns q33 g34, cns q36 g37, cns q39 g40, cns q42 g43, cns q45 g46, cns q48 g49, cns q10 (fun _ => q23)] : List (Nat → Nat)).getD j (fun _ => 0)) := ⟨_, rfl⟩
  rw [eR50, eR47, eR44, eR41, eR38, eR35, eR32, eR29, eR26, eR22, eR19, eR16, eR13, eR9, eR6, eR3] at hP hD
  simp only [List.nil_append, List.append_assoc] at hP hD
  have hP8 : va_P D vwCl (W9 C a U (va_up (va_up (va_up (va_up (fun _ => none) 0 (some (U 7 0))) 1 (some (U 8 0))) 2 (some (U 9 0))) 3 (some (U 10 0))) (va_up (va_up (va_up (fun _ => none) 0 (some (U 3 0))) 1 (some (U 4 0))) 2 (some (U 5 0))) (fun i => some ((U 6 1) + 1 + i)) (fun i => some ((U 11 2) + 1 + i)) (fun i => some ((U 11 3) + 1 + i))) H := by rw [eU]; exact hP
  have hD8 : va_D AA (W9 C a U (va_up (va_up (va_up (va_up (fun _ => none) 0 (some (U 7 0))) 1 (some (U 8 0))) 2 (some (U 9 0))) 3 (some (U 10 0))) (va_up (va_up (va_up (fun _ => none) 0 (some (U 3 0))) 1 (some (U 4 0))) 2 (some (U 5 0))) (fun i => some ((U 6 1) + 1 + i)) (fun i => some ((U 11 2) + 1 + i)) (fun i => some ((U 11 3) + 1 + i))) := by rw [eU]; exact hD
  obtain ⟨hP9, hD9⟩ := to_cw a U hP8 hD8
  rw [hAe] at hD9
  have hS9 : va_S (va_A [(a, .inr (9, [.null, .null, .null, .null, .int 0, .null, .null, .null, .null, .null, .null, .null]))] s.heap.size) s.heap H locs := by rw [← hAe]; exact hS
  exact W.vret hx hb hr (fun t ht hW => ⟨⟨A9 a U, rfl, rfl, by rw [ht]; exact hP9, va_K.moved hW.alike hK, hD9⟩, hS9.F ht⟩) hS9.2.2 dX9_init_171
