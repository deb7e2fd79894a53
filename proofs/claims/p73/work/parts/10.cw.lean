def cwl (C : Nat → ClassId) (A : Nat → Nat) (u : St) : va_W := [(A 0, .inr (9, [.ref (A 1), .ref (A 2), .ref (A 3), .ref (A 17), .int (gi u 0), .ref (A 7), .ref (A 18), .ref (A 12), .ref (A 13), .ref (A 14), .ref (A 15), .ref (A 16)])), (A 1, .inr (6, [.ref (A 22), .int (gi u 1), .int (gi u 2), .int (gi u 3), .int (gi u 4), .int (gi u 5), .int (gi u 6), .int (gi u 7)])), (A 2, .inr (7, [.int (gi u 8), .int (gi u 9), .int (gi u 10), .int (gi u 11), .int (gi u 12), .int (gi u 13), .int (gi u 14), .int (gi u 15), .ref (A 52), .ref (A 53), .ref (A 54), .ref (A 55), .ref (A 56), .ref (A 23), .ref (A 24), .ref (A 25)])), (A 3, .inr (7, [.int (gi u 16), .int (gi u 17), .int (gi u 18), .int (gi u 19), .int (gi u 20), .int (gi u 21), .int (gi u 22), .int (gi u 23), .ref (A 57), .ref (A 58), .ref (A 59), .ref (A 60), .ref (A 61), .ref (A 26), .ref (A 27), .ref (A 28)])), (A 4, .inr (7, [.int (gi u 24), .int (gi u 25), .int (gi u 26), .int (gi u 27), .int (gi u 28), .int (gi u 29), .int (gi u 30), .int (gi u 31), .ref (A 62), .ref (A 63), .ref (A 64), .ref (A 65), .ref (A 66), .ref (A 29), .ref (A 30), .ref (A 31)])), (A 5, .inr (7, [.int (gi u 32), .int (gi u 33), .int (gi u 34), .int (gi u 35), .int (gi u 36), .int (gi u 37), .int (gi u 38), .int (gi u 39), .ref (A 67), .ref (A 68), .ref (A 69), .ref (A 70), .ref (A 71), .ref (A 32), .ref (A 33), .ref (A 34)])), (A 6, .inr (7, [.int (gi u 40), .int (gi u 41), .int (gi u 42), .int (gi u 43), .int (gi u 44), .int (gi u 45), .int (gi u 46), .int (gi u 47), .ref (A 72), .ref (A 73), .ref (A 74), .ref (A 75), .ref (A 76), .ref (A 35), .ref (A 36), .ref (A 37)])), (A 7, .inr (5, [.int (gi u 48), .int (gi u 49), .ref (A 19), .ref (A 38)])), (A 8, .inr (3, [.int (gi u 50), .int (gi u 51), .ref (A 39)])), (A 9, .inr (3, [.int (gi u 52), .int (gi u 53), .ref (A 40)])), (A 10, .inr (3, [.int (gi u 54), .int (gi u 55), .ref (A 41)])), (A 11, .inr (3, [.int (gi u 56), .int (gi u 57), .ref (A 42)])), (A 12, .inr (1, [.int (gi u 58), .int (gi u 59), .int (gi u 60), .int (gi u 61), .int (gi u 62), .int (gi u 63), .int (gi u 64), .int (gi u 65), .ref (A 43), .ref (A 20), .ref (A 21), .ref (A 44), .ref (A 45), .ref (A 46), .ref (A 47)])), (A 13, .inr (0, [.int (gi u 66), .int (gi u 67), .ref (A 77), .ref (A 78), .ref (A 79), .ref (A 80)])), (A 14, .inr (2, [.int (gi u 68), .int (gi u 69), .int (gi u 70), .ref (A 81), .ref (A 48), .ref (A 49)])), (A 15, .inr (8, [.int (gi u 71), .int (gi u 72), .int (gi u 73), .int (gi u 74), .int (gi u 75), .int (gi u 76), .ref (A 50), .ref (A 51), .ref (A 82)])), (A 16, .inr (4, [.int (gi u 77), .int (gi u 78), .ref (A 83), .long (gl u 0)])), (A 17, .inl (C 4, 3, .inr (.inr (.inr (.inr (fun i => some (A (4 + i)))))))), (A 18, .inl (C 5, 4, .inr (.inr (.inr (.inr (fun i => some (A (8 + i)))))))), (A 19, .inl (C 6, 7, .inr (.inr (.inr (.inr (fun i => some (A (52 + (32 + i))))))))), (A 20, .inl (C 6, 49, .inr (.inr (.inr (.inr (fun i => some (A (52 + (39 + i))))))))), (A 21, .inl (C 6, 21, .inr (.inr (.inr (.inr (fun i => some (A (52 + (88 + i))))))))), (A 22, .inl (C 0, 800, .inl (ga u 22))), (A 23, .inl (C 1, 40, .inl (ga u 23))), (A 24, .inl (C 1, 40, .inl (ga u 24))), (A 25, .inl (C 1, 40, .inl (ga u 25))), (A 26, .inl (C 1, 40, .inl (ga u 26))), (A 27, .inl (C 1, 40, .inl (ga u 27))), (A 28, .inl (C 1, 40, .inl (ga u 28))), (A 29, .inl (C 1, 40, .inl (ga u 29))), (A 30, .inl (C 1, 40, .inl (ga u 30))), (A 31, .inl (C 1, 40, .inl (ga u 31))), (A 32, .inl (C 1, 40, .inl (ga u 32))), (A 33, .inl (C 1, 40, .inl (ga u 33))), (A 34, .inl (C 1, 40, .inl (ga u 34))), (A 35, .inl (C 1, 40, .inl (ga u 35))), (A 36, .inl (C 1, 40, .inl (ga u 36))), (A 37, .inl (C 1, 40, .inl (ga u 37))), (A 38, .inl (C 1, 7, .inl (ga u 38))), (A 39, .inl (C 2, 60, .inr (.inl (gb u 39)))), (A 40, .inl (C 2, 60, .inr (.inl (gb u 40)))), (A 41, .inl (C 2, 60, .inr (.inl (gb u 41)))), (A 42, .inl (C 2, 60, .inr (.inl (gb u 42)))), (A 43, .inl (C 1, 7, .inl (ga u 43))), (A 44, .inl (C 1, 7, .inl (ga u 44))), (A 45, .inl (C 1, 7, .inl (ga u 45))), (A 46, .inl (C 1, 7, .inl (ga u 46))), (A 47, .inl (C 1, 7, .inl (ga u 47))), (A 48, .inl (C 1, 36, .inl (ga u 48))), (A 49, .inl (C 1, 36, .inl (ga u 49))), (A 50, .inl (C 1, 30, .inl (ga u 50))), (A 51, .inl (C 1, 30, .inl (ga u 51)))]
def cwr (C : Nat → ClassId) (A : Nat → Nat) (u : St) : va_W := (List.range 109).map (fun j => (A (52 + j), .inl (C 1, 6, .inl (ga u (52 + j)))))
def cw (C : Nat → ClassId) (A : Nat → Nat) (u : St) : va_W := cwl C A u ++ cwr C A u
theorem cwl_len {C : Nat → ClassId} {A : Nat → Nat} {u : St} : (cwl C A u).length = 52 := rfl
theorem cw_at {C : Nat → ClassId} {A : Nat → Nat} {u : St} {k : Nat} {q : Nat × va_E} (h : k < 52) (e : (cwl C A u)[k]? = some q) : (cw C A u)[k]? = some q := by unfold cw; rw [List.getElem?_append_left (by rw [cwl_len]; exact h)]; exact e
theorem cwp (C : Nat → ClassId) (A : Nat → Nat) (u : St) (j : Nat) (hj : j < 109) : (cw C A u)[52 + j]? = some (A (52 + j), .inl (C 1, 6, .inl (ga u (52 + j)))) := by
  unfold cw
  rw [List.getElem?_append_right (by rw [cwl_len]; omega), cwl_len, show 52 + j - 52 = j by omega]
  unfold cwr
  rw [List.getElem?_map, List.getElem?_range hj]
  rfl
theorem cw_set {C : Nat → ClassId} {A : Nat → Nat} {u u1 : St} {k : Nat} {q : Nat × va_E} (h : k < 52) (e : (cwl C A u).set k q = cwl C A u1) (e2 : cwr C A u = cwr C A u1) : (cw C A u).set k q = cw C A u1 := by
  unfold cw
  rw [List.set_append_left _ _ (by rw [cwl_len]; exact h), e, e2]
theorem cwq (C : Nat → ClassId) (A : Nat → Nat) (u : St) (j : Nat) (hj : j < 109) : ∀ f, (cw C A u).set (52 + j) (A (52 + j), .inl (C 1, 6, .inl f)) = cw C A (sa u (52 + j) f) := by
  intro f
  unfold cw
  rw [List.set_append_right _ _ (by rw [cwl_len]; omega), cwl_len, show 52 + j - 52 = j by omega]
  have e1 : cwl C A (sa u (52 + j) f) = cwl C A u := by
    have g : ∀ k, k < 52 → ga (sa u (52 + j) f) k = ga u k := fun k hk => ga_ne rfl (by omega)
    unfold cwl
    rw [g 22 (by decide), g 23 (by decide), g 24 (by decide), g 25 (by decide), g 26 (by decide), g 27 (by decide), g 28 (by decide), g 29 (by decide), g 30 (by decide), g 31 (by decide), g 32 (by decide), g 33 (by decide), g 34 (by decide), g 35 (by decide), g 36 (by decide), g 37 (by decide), g 38 (by decide), g 43 (by decide), g 44 (by decide), g 45 (by decide), g 46 (by decide), g 47 (by decide), g 48 (by decide), g 49 (by decide), g 50 (by decide), g 51 (by decide)]
    rfl
  rw [e1]
  congr 1
  unfold cwr
  apply List.ext_getElem?
  intro i
  rw [List.getElem?_set]
  by_cases hi : j = i
  · subst hi
    simp only [List.length_map, List.length_range, hj, if_true, List.getElem?_map, List.getElem?_range hj, Option.map_some, ga_sa (rfl : sa u (52 + j) f = sa u (52 + j) f)]
  · rw [if_neg hi, List.getElem?_map, List.getElem?_map]
    by_cases h2 : i < 109
    · simp only [List.getElem?_range h2, Option.map_some, ga_ne (rfl : sa u (52 + j) f = sa u (52 + j) f) (show 52 + i ≠ 52 + j by omega)]
    · rw [List.getElem?_eq_none (by rw [List.length_range]; omega)]
      rfl
theorem cwc0 (C : Nat → ClassId) (A : Nat → Nat) (u : St) : (cw C A u)[0]? = some (A 0, .inr (9, [.ref (A 1), .ref (A 2), .ref (A 3), .ref (A 17), .int (gi u 0), .ref (A 7), .ref (A 18), .ref (A 12), .ref (A 13), .ref (A 14), .ref (A 15), .ref (A 16)])) := cw_at (by decide) rfl
theorem cwc1 (C : Nat → ClassId) (A : Nat → Nat) (u : St) : (cw C A u)[1]? = some (A 1, .inr (6, [.ref (A 22), .int (gi u 1), .int (gi u 2), .int (gi u 3), .int (gi u 4), .int (gi u 5), .int (gi u 6), .int (gi u 7)])) := cw_at (by decide) rfl
theorem cwc2 (C : Nat → ClassId) (A : Nat → Nat) (u : St) : (cw C A u)[2]? = some (A 2, .inr (7, [.int (gi u 8), .int (gi u 9), .int (gi u 10), .int (gi u 11), .int (gi u 12), .int (gi u 13), .int (gi u 14), .int (gi u 15), .ref (A 52), .ref (A 53), .ref (A 54), .ref (A 55), .ref (A 56), .ref (A 23), .ref (A 24), .ref (A 25)])) := cw_at (by decide) rfl
theorem cwc3 (C : Nat → ClassId) (A : Nat → Nat) (u : St) : (cw C A u)[3]? = some (A 3, .inr (7, [.int (gi u 16), .int (gi u 17), .int (gi u 18), .int (gi u 19), .int (gi u 20), .int (gi u 21), .int (gi u 22), .int (gi u 23), .ref (A 57), .ref (A 58), .ref (A 59), .ref (A 60), .ref (A 61), .ref (A 26), .ref (A 27), .ref (A 28)])) := cw_at (by decide) rfl
theorem cwc4 (C : Nat → ClassId) (A : Nat → Nat) (u : St) : (cw C A u)[4]? = some (A 4, .inr (7, [.int (gi u 24), .int (gi u 25), .int (gi u 26), .int (gi u 27), .int (gi u 28), .int (gi u 29), .int (gi u 30), .int (gi u 31), .ref (A 62), .ref (A 63), .ref (A 64), .ref (A 65), .ref (A 66), .ref (A 29), .ref (A 30), .ref (A 31)])) := cw_at (by decide) rfl
theorem cwc5 (C : Nat → ClassId) (A : Nat → Nat) (u : St) : (cw C A u)[5]? = some (A 5, .inr (7, [.int (gi u 32), .int (gi u 33), .int (gi u 34), .int (gi u 35), .int (gi u 36), .int (gi u 37), .int (gi u 38), .int (gi u 39), .ref (A 67), .ref (A 68), .ref (A 69), .ref (A 70), .ref (A 71), .ref (A 32), .ref (A 33), .ref (A 34)])) := cw_at (by decide) rfl
theorem cwc6 (C : Nat → ClassId) (A : Nat → Nat) (u : St) : (cw C A u)[6]? = some (A 6, .inr (7, [.int (gi u 40), .int (gi u 41), .int (gi u 42), .int (gi u 43), .int (gi u 44), .int (gi u 45), .int (gi u 46), .int (gi u 47), .ref (A 72), .ref (A 73), .ref (A 74), .ref (A 75), .ref (A 76), .ref (A 35), .ref (A 36), .ref (A 37)])) := cw_at (by decide) rfl
theorem cwc7 (C : Nat → ClassId) (A : Nat → Nat) (u : St) : (cw C A u)[7]? = some (A 7, .inr (5, [.int (gi u 48), .int (gi u 49), .ref (A 19), .ref (A 38)])) := cw_at (by decide) rfl
theorem cwc8 (C : Nat → ClassId) (A : Nat → Nat) (u : St) : (cw C A u)[8]? = some (A 8, .inr (3, [.int (gi u 50), .int (gi u 51), .ref (A 39)])) := cw_at (by decide) rfl
theorem cwc9 (C : Nat → ClassId) (A : Nat → Nat) (u : St) : (cw C A u)[9]? = some (A 9, .inr (3, [.int (gi u 52), .int (gi u 53), .ref (A 40)])) := cw_at (by decide) rfl
theorem cwc10 (C : Nat → ClassId) (A : Nat → Nat) (u : St) : (cw C A u)[10]? = some (A 10, .inr (3, [.int (gi u 54), .int (gi u 55), .ref (A 41)])) := cw_at (by decide) rfl
theorem cwc11 (C : Nat → ClassId) (A : Nat → Nat) (u : St) : (cw C A u)[11]? = some (A 11, .inr (3, [.int (gi u 56), .int (gi u 57), .ref (A 42)])) := cw_at (by decide) rfl
theorem cwc12 (C : Nat → ClassId) (A : Nat → Nat) (u : St) : (cw C A u)[12]? = some (A 12, .inr (1, [.int (gi u 58), .int (gi u 59), .int (gi u 60), .int (gi u 61), .int (gi u 62), .int (gi u 63), .int (gi u 64), .int (gi u 65), .ref (A 43), .ref (A 20), .ref (A 21), .ref (A 44), .ref (A 45), .ref (A 46), .ref (A 47)])) := cw_at (by decide) rfl
theorem cwc13 (C : Nat → ClassId) (A : Nat → Nat) (u : St) : (cw C A u)[13]? = some (A 13, .inr (0, [.int (gi u 66), .int (gi u 67), .ref (A 77), .ref (A 78), .ref (A 79), .ref (A 80)])) := cw_at (by decide) rfl
theorem cwc14 (C : Nat → ClassId) (A : Nat → Nat) (u : St) : (cw C A u)[14]? = some (A 14, .inr (2, [.int (gi u 68), .int (gi u 69), .int (gi u 70), .ref (A 81), .ref (A 48), .ref (A 49)])) := cw_at (by decide) rfl
theorem cwc15 (C : Nat → ClassId) (A : Nat → Nat) (u : St) : (cw C A u)[15]? = some (A 15, .inr (8, [.int (gi u 71), .int (gi u 72), .int (gi u 73), .int (gi u 74), .int (gi u 75), .int (gi u 76), .ref (A 50), .ref (A 51), .ref (A 82)])) := cw_at (by decide) rfl
theorem cwc16 (C : Nat → ClassId) (A : Nat → Nat) (u : St) : (cw C A u)[16]? = some (A 16, .inr (4, [.int (gi u 77), .int (gi u 78), .ref (A 83), .long (gl u 0)])) := cw_at (by decide) rfl
theorem cwc17 (C : Nat → ClassId) (A : Nat → Nat) (u : St) : (cw C A u)[17]? = some (A 17, .inl (C 4, 3, .inr (.inr (.inr (.inr (fun i => some (A (4 + i)))))))) := cw_at (by decide) rfl
theorem cwc18 (C : Nat → ClassId) (A : Nat → Nat) (u : St) : (cw C A u)[18]? = some (A 18, .inl (C 5, 4, .inr (.inr (.inr (.inr (fun i => some (A (8 + i)))))))) := cw_at (by decide) rfl
theorem cwc19 (C : Nat → ClassId) (A : Nat → Nat) (u : St) : (cw C A u)[19]? = some (A 19, .inl (C 6, 7, .inr (.inr (.inr (.inr (fun i => some (A (52 + (32 + i))))))))) := cw_at (by decide) rfl
theorem cwc20 (C : Nat → ClassId) (A : Nat → Nat) (u : St) : (cw C A u)[20]? = some (A 20, .inl (C 6, 49, .inr (.inr (.inr (.inr (fun i => some (A (52 + (39 + i))))))))) := cw_at (by decide) rfl
theorem cwc21 (C : Nat → ClassId) (A : Nat → Nat) (u : St) : (cw C A u)[21]? = some (A 21, .inl (C 6, 21, .inr (.inr (.inr (.inr (fun i => some (A (52 + (88 + i))))))))) := cw_at (by decide) rfl
theorem cwc22 (C : Nat → ClassId) (A : Nat → Nat) (u : St) : (cw C A u)[22]? = some (A 22, .inl (C 0, 800, .inl (ga u 22))) := cw_at (by decide) rfl
theorem cwc23 (C : Nat → ClassId) (A : Nat → Nat) (u : St) : (cw C A u)[23]? = some (A 23, .inl (C 1, 40, .inl (ga u 23))) := cw_at (by decide) rfl
theorem cwc24 (C : Nat → ClassId) (A : Nat → Nat) (u : St) : (cw C A u)[24]? = some (A 24, .inl (C 1, 40, .inl (ga u 24))) := cw_at (by decide) rfl
theorem cwc25 (C : Nat → ClassId) (A : Nat → Nat) (u : St) : (cw C A u)[25]? = some (A 25, .inl (C 1, 40, .inl (ga u 25))) := cw_at (by decide) rfl
theorem cwc26 (C : Nat → ClassId) (A : Nat → Nat) (u : St) : (cw C A u)[26]? = some (A 26, .inl (C 1, 40, .inl (ga u 26))) := cw_at (by decide) rfl
theorem cwc27 (C : Nat → ClassId) (A : Nat → Nat) (u : St) : (cw C A u)[27]? = some (A 27, .inl (C 1, 40, .inl (ga u 27))) := cw_at (by decide) rfl
theorem cwc28 (C : Nat → ClassId) (A : Nat → Nat) (u : St) : (cw C A u)[28]? = some (A 28, .inl (C 1, 40, .inl (ga u 28))) := cw_at (by decide) rfl
theorem cwc29 (C : Nat → ClassId) (A : Nat → Nat) (u : St) : (cw C A u)[29]? = some (A 29, .inl (C 1, 40, .inl (ga u 29))) := cw_at (by decide) rfl
theorem cwc30 (C : Nat → ClassId) (A : Nat → Nat) (u : St) : (cw C A u)[30]? = some (A 30, .inl (C 1, 40, .inl (ga u 30))) := cw_at (by decide) rfl
theorem cwc31 (C : Nat → ClassId) (A : Nat → Nat) (u : St) : (cw C A u)[31]? = some (A 31, .inl (C 1, 40, .inl (ga u 31))) := cw_at (by decide) rfl
theorem cwc32 (C : Nat → ClassId) (A : Nat → Nat) (u : St) : (cw C A u)[32]? = some (A 32, .inl (C 1, 40, .inl (ga u 32))) := cw_at (by decide) rfl
theorem cwc33 (C : Nat → ClassId) (A : Nat → Nat) (u : St) : (cw C A u)[33]? = some (A 33, .inl (C 1, 40, .inl (ga u 33))) := cw_at (by decide) rfl
theorem cwc34 (C : Nat → ClassId) (A : Nat → Nat) (u : St) : (cw C A u)[34]? = some (A 34, .inl (C 1, 40, .inl (ga u 34))) := cw_at (by decide) rfl
theorem cwc35 (C : Nat → ClassId) (A : Nat → Nat) (u : St) : (cw C A u)[35]? = some (A 35, .inl (C 1, 40, .inl (ga u 35))) := cw_at (by decide) rfl
theorem cwc36 (C : Nat → ClassId) (A : Nat → Nat) (u : St) : (cw C A u)[36]? = some (A 36, .inl (C 1, 40, .inl (ga u 36))) := cw_at (by decide) rfl
theorem cwc37 (C : Nat → ClassId) (A : Nat → Nat) (u : St) : (cw C A u)[37]? = some (A 37, .inl (C 1, 40, .inl (ga u 37))) := cw_at (by decide) rfl
theorem cwc38 (C : Nat → ClassId) (A : Nat → Nat) (u : St) : (cw C A u)[38]? = some (A 38, .inl (C 1, 7, .inl (ga u 38))) := cw_at (by decide) rfl
theorem cwc39 (C : Nat → ClassId) (A : Nat → Nat) (u : St) : (cw C A u)[39]? = some (A 39, .inl (C 2, 60, .inr (.inl (gb u 39)))) := cw_at (by decide) rfl
theorem cwc40 (C : Nat → ClassId) (A : Nat → Nat) (u : St) : (cw C A u)[40]? = some (A 40, .inl (C 2, 60, .inr (.inl (gb u 40)))) := cw_at (by decide) rfl
theorem cwc41 (C : Nat → ClassId) (A : Nat → Nat) (u : St) : (cw C A u)[41]? = some (A 41, .inl (C 2, 60, .inr (.inl (gb u 41)))) := cw_at (by decide) rfl
theorem cwc42 (C : Nat → ClassId) (A : Nat → Nat) (u : St) : (cw C A u)[42]? = some (A 42, .inl (C 2, 60, .inr (.inl (gb u 42)))) := cw_at (by decide) rfl
theorem cwc43 (C : Nat → ClassId) (A : Nat → Nat) (u : St) : (cw C A u)[43]? = some (A 43, .inl (C 1, 7, .inl (ga u 43))) := cw_at (by decide) rfl
theorem cwc44 (C : Nat → ClassId) (A : Nat → Nat) (u : St) : (cw C A u)[44]? = some (A 44, .inl (C 1, 7, .inl (ga u 44))) := cw_at (by decide) rfl
theorem cwc45 (C : Nat → ClassId) (A : Nat → Nat) (u : St) : (cw C A u)[45]? = some (A 45, .inl (C 1, 7, .inl (ga u 45))) := cw_at (by decide) rfl
theorem cwc46 (C : Nat → ClassId) (A : Nat → Nat) (u : St) : (cw C A u)[46]? = some (A 46, .inl (C 1, 7, .inl (ga u 46))) := cw_at (by decide) rfl
theorem cwc47 (C : Nat → ClassId) (A : Nat → Nat) (u : St) : (cw C A u)[47]? = some (A 47, .inl (C 1, 7, .inl (ga u 47))) := cw_at (by decide) rfl
theorem cwc48 (C : Nat → ClassId) (A : Nat → Nat) (u : St) : (cw C A u)[48]? = some (A 48, .inl (C 1, 36, .inl (ga u 48))) := cw_at (by decide) rfl
theorem cwc49 (C : Nat → ClassId) (A : Nat → Nat) (u : St) : (cw C A u)[49]? = some (A 49, .inl (C 1, 36, .inl (ga u 49))) := cw_at (by decide) rfl
theorem cwc50 (C : Nat → ClassId) (A : Nat → Nat) (u : St) : (cw C A u)[50]? = some (A 50, .inl (C 1, 30, .inl (ga u 50))) := cw_at (by decide) rfl
theorem cwc51 (C : Nat → ClassId) (A : Nat → Nat) (u : St) : (cw C A u)[51]? = some (A 51, .inl (C 1, 30, .inl (ga u 51))) := cw_at (by decide) rfl
theorem cws0 (C : Nat → ClassId) (A : Nat → Nat) (u : St) (x : Int32) : (cw C A u).set 0 (A 0, .inr (9, ([.ref (A 1), .ref (A 2), .ref (A 3), .ref (A 17), .int (gi u 0), .ref (A 7), .ref (A 18), .ref (A 12), .ref (A 13), .ref (A 14), .ref (A 15), .ref (A 16)] : List Value).set 4 (.int x))) = cw C A (si u 0 x) := cw_set (by decide) rfl rfl
theorem cws1 (C : Nat → ClassId) (A : Nat → Nat) (u : St) (x : Int32) : (cw C A u).set 1 (A 1, .inr (6, ([.ref (A 22), .int (gi u 1), .int (gi u 2), .int (gi u 3), .int (gi u 4), .int (gi u 5), .int (gi u 6), .int (gi u 7)] : List Value).set 1 (.int x))) = cw C A (si u 1 x) := cw_set (by decide) rfl rfl
theorem cws2 (C : Nat → ClassId) (A : Nat → Nat) (u : St) (x : Int32) : (cw C A u).set 1 (A 1, .inr (6, ([.ref (A 22), .int (gi u 1), .int (gi u 2), .int (gi u 3), .int (gi u 4), .int (gi u 5), .int (gi u 6), .int (gi u 7)] : List Value).set 2 (.int x))) = cw C A (si u 2 x) := cw_set (by decide) rfl rfl
theorem cws3 (C : Nat → ClassId) (A : Nat → Nat) (u : St) (x : Int32) : (cw C A u).set 1 (A 1, .inr (6, ([.ref (A 22), .int (gi u 1), .int (gi u 2), .int (gi u 3), .int (gi u 4), .int (gi u 5), .int (gi u 6), .int (gi u 7)] : List Value).set 3 (.int x))) = cw C A (si u 3 x) := cw_set (by decide) rfl rfl
theorem cws4 (C : Nat → ClassId) (A : Nat → Nat) (u : St) (x : Int32) : (cw C A u).set 1 (A 1, .inr (6, ([.ref (A 22), .int (gi u 1), .int (gi u 2), .int (gi u 3), .int (gi u 4), .int (gi u 5), .int (gi u 6), .int (gi u 7)] : List Value).set 4 (.int x))) = cw C A (si u 4 x) := cw_set (by decide) rfl rfl
theorem cws5 (C : Nat → ClassId) (A : Nat → Nat) (u : St) (x : Int32) : (cw C A u).set 1 (A 1, .inr (6, ([.ref (A 22), .int (gi u 1), .int (gi u 2), .int (gi u 3), .int (gi u 4), .int (gi u 5), .int (gi u 6), .int (gi u 7)] : List Value).set 5 (.int x))) = cw C A (si u 5 x) := cw_set (by decide) rfl rfl
theorem cws6 (C : Nat → ClassId) (A : Nat → Nat) (u : St) (x : Int32) : (cw C A u).set 1 (A 1, .inr (6, ([.ref (A 22), .int (gi u 1), .int (gi u 2), .int (gi u 3), .int (gi u 4), .int (gi u 5), .int (gi u 6), .int (gi u 7)] : List Value).set 6 (.int x))) = cw C A (si u 6 x) := cw_set (by decide) rfl rfl
theorem cws7 (C : Nat → ClassId) (A : Nat → Nat) (u : St) (x : Int32) : (cw C A u).set 1 (A 1, .inr (6, ([.ref (A 22), .int (gi u 1), .int (gi u 2), .int (gi u 3), .int (gi u 4), .int (gi u 5), .int (gi u 6), .int (gi u 7)] : List Value).set 7 (.int x))) = cw C A (si u 7 x) := cw_set (by decide) rfl rfl
theorem cws8 (C : Nat → ClassId) (A : Nat → Nat) (u : St) (x : Int32) : (cw C A u).set 2 (A 2, .inr (7, ([.int (gi u 8), .int (gi u 9), .int (gi u 10), .int (gi u 11), .int (gi u 12), .int (gi u 13), .int (gi u 14), .int (gi u 15), .ref (A 52), .ref (A 53), .ref (A 54), .ref (A 55), .ref (A 56), .ref (A 23), .ref (A 24), .ref (A 25)] : List Value).set 0 (.int x))) = cw C A (si u 8 x) := cw_set (by decide) rfl rfl
theorem cws9 (C : Nat → ClassId) (A : Nat → Nat) (u : St) (x : Int32) : (cw C A u).set 2 (A 2, .inr (7, ([.int (gi u 8), .int (gi u 9), .int (gi u 10), .int (gi u 11), .int (gi u 12), .int (gi u 13), .int (gi u 14), .int (gi u 15), .ref (A 52), .ref (A 53), .ref (A 54), .ref (A 55), .ref (A 56), .ref (A 23), .ref (A 24), .ref (A 25)] : List Value).set 1 (.int x))) = cw C A (si u 9 x) := cw_set (by decide) rfl rfl
theorem cws10 (C : Nat → ClassId) (A : Nat → Nat) (u : St) (x : Int32) : (cw C A u).set 2 (A 2, .inr (7, ([.int (gi u 8), .int (gi u 9), .int (gi u 10), .int (gi u 11), .int (gi u 12), .int (gi u 13), .int (gi u 14), .int (gi u 15), .ref (A 52), .ref (A 53), .ref (A 54), .ref (A 55), .ref (A 56), .ref (A 23), .ref (A 24), .ref (A 25)] : List Value).set 2 (.int x))) = cw C A (si u 10 x) := cw_set (by decide) rfl rfl
theorem cws11 (C : Nat → ClassId) (A : Nat → Nat) (u : St) (x : Int32) : (cw C A u).set 2 (A 2, .inr (7, ([.int (gi u 8), .int (gi u 9), .int (gi u 10), .int (gi u 11), .int (gi u 12), .int (gi u 13), .int (gi u 14), .int (gi u 15), .ref (A 52), .ref (A 53), .ref (A 54), .ref (A 55), .ref (A 56), .ref (A 23), .ref (A 24), .ref (A 25)] : List Value).set 3 (.int x))) = cw C A (si u 11 x) := cw_set (by decide) rfl rfl
theorem cws12 (C : Nat → ClassId) (A : Nat → Nat) (u : St) (x : Int32) : (cw C A u).set 2 (A 2, .inr (7, ([.int (gi u 8), .int (gi u 9), .int (gi u 10), .int (gi u 11), .int (gi u 12), .int (gi u 13), .int (gi u 14), .int (gi u 15), .ref (A 52), .ref (A 53), .ref (A 54), .ref (A 55), .ref (A 56), .ref (A 23), .ref (A 24), .ref (A 25)] : List Value).set 4 (.int x))) = cw C A (si u 12 x) := cw_set (by decide) rfl rfl
theorem cws13 (C : Nat → ClassId) (A : Nat → Nat) (u : St) (x : Int32) : (cw C A u).set 2 (A 2, .inr (7, ([.int (gi u 8), .int (gi u 9), .int (gi u 10), .int (gi u 11), .int (gi u 12), .int (gi u 13), .int (gi u 14), .int (gi u 15), .ref (A 52), .ref (A 53), .ref (A 54), .ref (A 55), .ref (A 56), .ref (A 23), .ref (A 24), .ref (A 25)] : List Value).set 5 (.int x))) = cw C A (si u 13 x) := cw_set (by decide) rfl rfl
theorem cws14 (C : Nat → ClassId) (A : Nat → Nat) (u : St) (x : Int32) : (cw C A u).set 2 (A 2, .inr (7, ([.int (gi u 8), .int (gi u 9), .int (gi u 10), .int (gi u 11), .int (gi u 12), .int (gi u 13), .int (gi u 14), .int (gi u 15), .ref (A 52), .ref (A 53), .ref (A 54), .ref (A 55), .ref (A 56), .ref (A 23), .ref (A 24), .ref (A 25)] : List Value).set 6 (.int x))) = cw C A (si u 14 x) := cw_set (by decide) rfl rfl
theorem cws15 (C : Nat → ClassId) (A : Nat → Nat) (u : St) (x : Int32) : (cw C A u).set 2 (A 2, .inr (7, ([.int (gi u 8), .int (gi u 9), .int (gi u 10), .int (gi u 11), .int (gi u 12), .int (gi u 13), .int (gi u 14), .int (gi u 15), .ref (A 52), .ref (A 53), .ref (A 54), .ref (A 55), .ref (A 56), .ref (A 23), .ref (A 24), .ref (A 25)] : List Value).set 7 (.int x))) = cw C A (si u 15 x) := cw_set (by decide) rfl rfl
theorem cws16 (C : Nat → ClassId) (A : Nat → Nat) (u : St) (x : Int32) : (cw C A u).set 3 (A 3, .inr (7, ([.int (gi u 16), .int (gi u 17), .int (gi u 18), .int (gi u 19), .int (gi u 20), .int (gi u 21), .int (gi u 22), .int (gi u 23), .ref (A 57), .ref (A 58), .ref (A 59), .ref (A 60), .ref (A 61), .ref (A 26), .ref (A 27), .ref (A 28)] : List Value).set 0 (.int x))) = cw C A (si u 16 x) := cw_set (by decide) rfl rfl
theorem cws17 (C : Nat → ClassId) (A : Nat → Nat) (u : St) (x : Int32) : (cw C A u).set 3 (A 3, .inr (7, ([.int (gi u 16), .int (gi u 17), .int (gi u 18), .int (gi u 19), .int (gi u 20), .int (gi u 21), .int (gi u 22), .int (gi u 23), .ref (A 57), .ref (A 58), .ref (A 59), .ref (A 60), .ref (A 61), .ref (A 26), .ref (A 27), .ref (A 28)] : List Value).set 1 (.int x))) = cw C A (si u 17 x) := cw_set (by decide) rfl rfl
theorem cws18 (C : Nat → ClassId) (A : Nat → Nat) (u : St) (x : Int32) : (cw C A u).set 3 (A 3, .inr (7, ([.int (gi u 16), .int (gi u 17), .int (gi u 18), .int (gi u 19), .int (gi u 20), .int (gi u 21), .int (gi u 22), .int (gi u 23), .ref (A 57), .ref (A 58), .ref (A 59), .ref (A 60), .ref (A 61), .ref (A 26), .ref (A 27), .ref (A 28)] : List Value).set 2 (.int x))) = cw C A (si u 18 x) := cw_set (by decide) rfl rfl
theorem cws19 (C : Nat → ClassId) (A : Nat → Nat) (u : St) (x : Int32) : (cw C A u).set 3 (A 3, .inr (7, ([.int (gi u 16), .int (gi u 17), .int (gi u 18), .int (gi u 19), .int (gi u 20), .int (gi u 21), .int (gi u 22), .int (gi u 23), .ref (A 57), .ref (A 58), .ref (A 59), .ref (A 60), .ref (A 61), .ref (A 26), .ref (A 27), .ref (A 28)] : List Value).set 3 (.int x))) = cw C A (si u 19 x) := cw_set (by decide) rfl rfl
theorem cws20 (C : Nat → ClassId) (A : Nat → Nat) (u : St) (x : Int32) : (cw C A u).set 3 (A 3, .inr (7, ([.int (gi u 16), .int (gi u 17), .int (gi u 18), .int (gi u 19), .int (gi u 20), .int (gi u 21), .int (gi u 22), .int (gi u 23), .ref (A 57), .ref (A 58), .ref (A 59), .ref (A 60), .ref (A 61), .ref (A 26), .ref (A 27), .ref (A 28)] : List Value).set 4 (.int x))) = cw C A (si u 20 x) := cw_set (by decide) rfl rfl
theorem cws21 (C : Nat → ClassId) (A : Nat → Nat) (u : St) (x : Int32) : (cw C A u).set 3 (A 3, .inr (7, ([.int (gi u 16), .int (gi u 17), .int (gi u 18), .int (gi u 19), .int (gi u 20), .int (gi u 21), .int (gi u 22), .int (gi u 23), .ref (A 57), .ref (A 58), .ref (A 59), .ref (A 60), .ref (A 61), .ref (A 26), .ref (A 27), .ref (A 28)] : List Value).set 5 (.int x))) = cw C A (si u 21 x) := cw_set (by decide) rfl rfl
theorem cws22 (C : Nat → ClassId) (A : Nat → Nat) (u : St) (x : Int32) : (cw C A u).set 3 (A 3, .inr (7, ([.int (gi u 16), .int (gi u 17), .int (gi u 18), .int (gi u 19), .int (gi u 20), .int (gi u 21), .int (gi u 22), .int (gi u 23), .ref (A 57), .ref (A 58), .ref (A 59), .ref (A 60), .ref (A 61), .ref (A 26), .ref (A 27), .ref (A 28)] : List Value).set 6 (.int x))) = cw C A (si u 22 x) := cw_set (by decide) rfl rfl
theorem cws23 (C : Nat → ClassId) (A : Nat → Nat) (u : St) (x : Int32) : (cw C A u).set 3 (A 3, .inr (7, ([.int (gi u 16), .int (gi u 17), .int (gi u 18), .int (gi u 19), .int (gi u 20), .int (gi u 21), .int (gi u 22), .int (gi u 23), .ref (A 57), .ref (A 58), .ref (A 59), .ref (A 60), .ref (A 61), .ref (A 26), .ref (A 27), .ref (A 28)] : List Value).set 7 (.int x))) = cw C A (si u 23 x) := cw_set (by decide) rfl rfl
theorem cws24 (C : Nat → ClassId) (A : Nat → Nat) (u : St) (x : Int32) : (cw C A u).set 4 (A 4, .inr (7, ([.int (gi u 24), .int (gi u 25), .int (gi u 26), .int (gi u 27), .int (gi u 28), .int (gi u 29), .int (gi u 30), .int (gi u 31), .ref (A 62), .ref (A 63), .ref (A 64), .ref (A 65), .ref (A 66), .ref (A 29), .ref (A 30), .ref (A 31)] : List Value).set 0 (.int x))) = cw C A (si u 24 x) := cw_set (by decide) rfl rfl
theorem cws25 (C : Nat → ClassId) (A : Nat → Nat) (u : St) (x : Int32) : (cw C A u).set 4 (A 4, .inr (7, ([.int (gi u 24), .int (gi u 25), .int (gi u 26), .int (gi u 27), .int (gi u 28), .int (gi u 29), .int (gi u 30), .int (gi u 31), .ref (A 62), .ref (A 63), .ref (A 64), .ref (A 65), .ref (A 66), .ref (A 29), .ref (A 30), .ref (A 31)] : List Value).set 1 (.int x))) = cw C A (si u 25 x) := cw_set (by decide) rfl rfl
theorem cws26 (C : Nat → ClassId) (A : Nat → Nat) (u : St) (x : Int32) : (cw C A u).set 4 (A 4, .inr (7, ([.int (gi u 24), .int (gi u 25), .int (gi u 26), .int (gi u 27), .int (gi u 28), .int (gi u 29), .int (gi u 30), .int (gi u 31), .ref (A 62), .ref (A 63), .ref (A 64), .ref (A 65), .ref (A 66), .ref (A 29), .ref (A 30), .ref (A 31)] : List Value).set 2 (.int x))) = cw C A (si u 26 x) := cw_set (by decide) rfl rfl
theorem cws27 (C : Nat → ClassId) (A : Nat → Nat) (u : St) (x : Int32) : (cw C A u).set 4 (A 4, .inr (7, ([.int (gi u 24), .int (gi u 25), .int (gi u 26), .int (gi u 27), .int (gi u 28), .int (gi u 29), .int (gi u 30), .int (gi u 31), .ref (A 62), .ref (A 63), .ref (A 64), .ref (A 65), .ref (A 66), .ref (A 29), .ref (A 30), .ref (A 31)] : List Value).set 3 (.int x))) = cw C A (si u 27 x) := cw_set (by decide) rfl rfl
theorem cws28 (C : Nat → ClassId) (A : Nat → Nat) (u : St) (x : Int32) : (cw C A u).set 4 (A 4, .inr (7, ([.int (gi u 24), .int (gi u 25), .int (gi u 26), .int (gi u 27), .int (gi u 28), .int (gi u 29), .int (gi u 30), .int (gi u 31), .ref (A 62), .ref (A 63), .ref (A 64), .ref (A 65), .ref (A 66), .ref (A 29), .ref (A 30), .ref (A 31)] : List Value).set 4 (.int x))) = cw C A (si u 28 x) := cw_set (by decide) rfl rfl
theorem cws29 (C : Nat → ClassId) (A : Nat → Nat) (u : St) (x : Int32) : (cw C A u).set 4 (A 4, .inr (7, ([.int (gi u 24), .int (gi u 25), .int (gi u 26), .int (gi u 27), .int (gi u 28), .int (gi u 29), .int (gi u 30), .int (gi u 31), .ref (A 62), .ref (A 63), .ref (A 64), .ref (A 65), .ref (A 66), .ref (A 29), .ref (A 30), .ref (A 31)] : List Value).set 5 (.int x))) = cw C A (si u 29 x) := cw_set (by decide) rfl rfl
theorem cws30 (C : Nat → ClassId) (A : Nat → Nat) (u : St) (x : Int32) : (cw C A u).set 4 (A 4, .inr (7, ([.int (gi u 24), .int (gi u 25), .int (gi u 26), .int (gi u 27), .int (gi u 28), .int (gi u 29), .int (gi u 30), .int (gi u 31), .ref (A 62), .ref (A 63), .ref (A 64), .ref (A 65), .ref (A 66), .ref (A 29), .ref (A 30), .ref (A 31)] : List Value).set 6 (.int x))) = cw C A (si u 30 x) := cw_set (by decide) rfl rfl
theorem cws31 (C : Nat → ClassId) (A : Nat → Nat) (u : St) (x : Int32) : (cw C A u).set 4 (A 4, .inr (7, ([.int (gi u 24), .int (gi u 25), .int (gi u 26), .int (gi u 27), .int (gi u 28), .int (gi u 29), .int (gi u 30), .int (gi u 31), .ref (A 62), .ref (A 63), .ref (A 64), .ref (A 65), .ref (A 66), .ref (A 29), .ref (A 30), .ref (A 31)] : List Value).set 7 (.int x))) = cw C A (si u 31 x) := cw_set (by decide) rfl rfl
theorem cws32 (C : Nat → ClassId) (A : Nat → Nat) (u : St) (x : Int32) : (cw C A u).set 5 (A 5, .inr (7, ([.int (gi u 32), .int (gi u 33), .int (gi u 34), .int (gi u 35), .int (gi u 36), .int (gi u 37), .int (gi u 38), .int (gi u 39), .ref (A 67), .ref (A 68), .ref (A 69), .ref (A 70), .ref (A 71), .ref (A 32), .ref (A 33), .ref (A 34)] : List Value).set 0 (.int x))) = cw C A (si u 32 x) := cw_set (by decide) rfl rfl
theorem cws33 (C : Nat → ClassId) (A : Nat → Nat) (u : St) (x : Int32) : (cw C A u).set 5 (A 5, .inr (7, ([.int (gi u 32), .int (gi u 33), .int (gi u 34), .int (gi u 35), .int (gi u 36), .int (gi u 37), .int (gi u 38), .int (gi u 39), .ref (A 67), .ref (A 68), .ref (A 69), .ref (A 70), .ref (A 71), .ref (A 32), .ref (A 33), .ref (A 34)] : List Value).set 1 (.int x))) = cw C A (si u 33 x) := cw_set (by decide) rfl rfl
theorem cws34 (C : Nat → ClassId) (A : Nat → Nat) (u : St) (x : Int32) : (cw C A u).set 5 (A 5, .inr (7, ([.int (gi u 32), .int (gi u 33), .int (gi u 34), .int (gi u 35), .int (gi u 36), .int (gi u 37), .int (gi u 38), .int (gi u 39), .ref (A 67), .ref (A 68), .ref (A 69), .ref (A 70), .ref (A 71), .ref (A 32), .ref (A 33), .ref (A 34)] : List Value).set 2 (.int x))) = cw C A (si u 34 x) := cw_set (by decide) rfl rfl
theorem cws35 (C : Nat → ClassId) (A : Nat → Nat) (u : St) (x : Int32) : (cw C A u).set 5 (A 5, .inr (7, ([.int (gi u 32), .int (gi u 33), .int (gi u 34), .int (gi u 35), .int (gi u 36), .int (gi u 37), .int (gi u 38), .int (gi u 39), .ref (A 67), .ref (A 68), .ref (A 69), .ref (A 70), .ref (A 71), .ref (A 32), .ref (A 33), .ref (A 34)] : List Value).set 3 (.int x))) = cw C A (si u 35 x) := cw_set (by decide) rfl rfl
theorem cws36 (C : Nat → ClassId) (A : Nat → Nat) (u : St) (x : Int32) : (cw C A u).set 5 (A 5, .inr (7, ([.int (gi u 32), .int (gi u 33), .int (gi u 34), .int (gi u 35), .int (gi u 36), .int (gi u 37), .int (gi u 38), .int (gi u 39), .ref (A 67), .ref (A 68), .ref (A 69), .ref (A 70), .ref (A 71), .ref (A 32), .ref (A 33), .ref (A 34)] : List Value).set 4 (.int x))) = cw C A (si u 36 x) := cw_set (by decide) rfl rfl
theorem cws37 (C : Nat → ClassId) (A : Nat → Nat) (u : St) (x : Int32) : (cw C A u).set 5 (A 5, .inr (7, ([.int (gi u 32), .int (gi u 33), .int (gi u 34), .int (gi u 35), .int (gi u 36), .int (gi u 37), .int (gi u 38), .int (gi u 39), .ref (A 67), .ref (A 68), .ref (A 69), .ref (A 70), .ref (A 71), .ref (A 32), .ref (A 33), .ref (A 34)] : List Value).set 5 (.int x))) = cw C A (si u 37 x) := cw_set (by decide) rfl rfl
theorem cws38 (C : Nat → ClassId) (A : Nat → Nat) (u : St) (x : Int32) : (cw C A u).set 5 (A 5, .inr (7, ([.int (gi u 32), .int (gi u 33), .int (gi u 34), .int (gi u 35), .int (gi u 36), .int (gi u 37), .int (gi u 38), .int (gi u 39), .ref (A 67), .ref (A 68), .ref (A 69), .ref (A 70), .ref (A 71), .ref (A 32), .ref (A 33), .ref (A 34)] : List Value).set 6 (.int x))) = cw C A (si u 38 x) := cw_set (by decide) rfl rfl
theorem cws39 (C : Nat → ClassId) (A : Nat → Nat) (u : St) (x : Int32) : (cw C A u).set 5 (A 5, .inr (7, ([.int (gi u 32), .int (gi u 33), .int (gi u 34), .int (gi u 35), .int (gi u 36), .int (gi u 37), .int (gi u 38), .int (gi u 39), .ref (A 67), .ref (A 68), .ref (A 69), .ref (A 70), .ref (A 71), .ref (A 32), .ref (A 33), .ref (A 34)] : List Value).set 7 (.int x))) = cw C A (si u 39 x) := cw_set (by decide) rfl rfl
theorem cws40 (C : Nat → ClassId) (A : Nat → Nat) (u : St) (x : Int32) : (cw C A u).set 6 (A 6, .inr (7, ([.int (gi u 40), .int (gi u 41), .int (gi u 42), .int (gi u 43), .int (gi u 44), .int (gi u 45), .int (gi u 46), .int (gi u 47), .ref (A 72), .ref (A 73), .ref (A 74), .ref (A 75), .ref (A 76), .ref (A 35), .ref (A 36), .ref (A 37)] : List Value).set 0 (.int x))) = cw C A (si u 40 x) := cw_set (by decide) rfl rfl
theorem cws41 (C : Nat → ClassId) (A : Nat → Nat) (u : St) (x : Int32) : (cw C A u).set 6 (A 6, .inr (7, ([.int (gi u 40), .int (gi u 41), .int (gi u 42), .int (gi u 43), .int (gi u 44), .int (gi u 45), .int (gi u 46), .int (gi u 47), .ref (A 72), .ref (A 73), .ref (A 74), .ref (A 75), .ref (A 76), .ref (A 35), .ref (A 36), .ref (A 37)] : List Value).set 1 (.int x))) = cw C A (si u 41 x) := cw_set (by decide) rfl rfl
theorem cws42 (C : Nat → ClassId) (A : Nat → Nat) (u : St) (x : Int32) : (cw C A u).set 6 (A 6, .inr (7, ([.int (gi u 40), .int (gi u 41), .int (gi u 42), .int (gi u 43), .int (gi u 44), .int (gi u 45), .int (gi u 46), .int (gi u 47), .ref (A 72), .ref (A 73), .ref (A 74), .ref (A 75), .ref (A 76), .ref (A 35), .ref (A 36), .ref (A 37)] : List Value).set 2 (.int x))) = cw C A (si u 42 x) := cw_set (by decide) rfl rfl
theorem cws43 (C : Nat → ClassId) (A : Nat → Nat) (u : St) (x : Int32) : (cw C A u).set 6 (A 6, .inr (7, ([.int (gi u 40), .int (gi u 41), .int (gi u 42), .int (gi u 43), .int (gi u 44), .int (gi u 45), .int (gi u 46), .int (gi u 47), .ref (A 72), .ref (A 73), .ref (A 74), .ref (A 75), .ref (A 76), .ref (A 35), .ref (A 36), .ref (A 37)] : List Value).set 3 (.int x))) = cw C A (si u 43 x) := cw_set (by decide) rfl rfl
theorem cws44 (C : Nat → ClassId) (A : Nat → Nat) (u : St) (x : Int32) : (cw C A u).set 6 (A 6, .inr (7, ([.int (gi u 40), .int (gi u 41), .int (gi u 42), .int (gi u 43), .int (gi u 44), .int (gi u 45), .int (gi u 46), .int (gi u 47), .ref (A 72), .ref (A 73), .ref (A 74), .ref (A 75), .ref (A 76), .ref (A 35), .ref (A 36), .ref (A 37)] : List Value).set 4 (.int x))) = cw C A (si u 44 x) := cw_set (by decide) rfl rfl
theorem cws45 (C : Nat → ClassId) (A : Nat → Nat) (u : St) (x : Int32) : (cw C A u).set 6 (A 6, .inr (7, ([.int (gi u 40), .int (gi u 41), .int (gi u 42), .int (gi u 43), .int (gi u 44), .int (gi u 45), .int (gi u 46), .int (gi u 47), .ref (A 72), .ref (A 73), .ref (A 74), .ref (A 75), .ref (A 76), .ref (A 35), .ref (A 36), .ref (A 37)] : List Value).set 5 (.int x))) = cw C A (si u 45 x) := cw_set (by decide) rfl rfl
theorem cws46 (C : Nat → ClassId) (A : Nat → Nat) (u : St) (x : Int32) : (cw C A u).set 6 (A 6, .inr (7, ([.int (gi u 40), .int (gi u 41), .int (gi u 42), .int (gi u 43), .int (gi u 44), .int (gi u 45), .int (gi u 46), .int (gi u 47), .ref (A 72), .ref (A 73), .ref (A 74), .ref (A 75), .ref (A 76), .ref (A 35), .ref (A 36), .ref (A 37)] : List Value).set 6 (.int x))) = cw C A (si u 46 x) := cw_set (by decide) rfl rfl
theorem cws47 (C : Nat → ClassId) (A : Nat → Nat) (u : St) (x : Int32) : (cw C A u).set 6 (A 6, .inr (7, ([.int (gi u 40), .int (gi u 41), .int (gi u 42), .int (gi u 43), .int (gi u 44), .int (gi u 45), .int (gi u 46), .int (gi u 47), .ref (A 72), .ref (A 73), .ref (A 74), .ref (A 75), .ref (A 76), .ref (A 35), .ref (A 36), .ref (A 37)] : List Value).set 7 (.int x))) = cw C A (si u 47 x) := cw_set (by decide) rfl rfl
theorem cws48 (C : Nat → ClassId) (A : Nat → Nat) (u : St) (x : Int32) : (cw C A u).set 7 (A 7, .inr (5, ([.int (gi u 48), .int (gi u 49), .ref (A 19), .ref (A 38)] : List Value).set 0 (.int x))) = cw C A (si u 48 x) := cw_set (by decide) rfl rfl
theorem cws49 (C : Nat → ClassId) (A : Nat → Nat) (u : St) (x : Int32) : (cw C A u).set 7 (A 7, .inr (5, ([.int (gi u 48), .int (gi u 49), .ref (A 19), .ref (A 38)] : List Value).set 1 (.int x))) = cw C A (si u 49 x) := cw_set (by decide) rfl rfl
theorem cws50 (C : Nat → ClassId) (A : Nat → Nat) (u : St) (x : Int32) : (cw C A u).set 8 (A 8, .inr (3, ([.int (gi u 50), .int (gi u 51), .ref (A 39)] : List Value).set 0 (.int x))) = cw C A (si u 50 x) := cw_set (by decide) rfl rfl
theorem cws51 (C : Nat → ClassId) (A : Nat → Nat) (u : St) (x : Int32) : (cw C A u).set 8 (A 8, .inr (3, ([.int (gi u 50), .int (gi u 51), .ref (A 39)] : List Value).set 1 (.int x))) = cw C A (si u 51 x) := cw_set (by decide) rfl rfl
theorem cws52 (C : Nat → ClassId) (A : Nat → Nat) (u : St) (x : Int32) : (cw C A u).set 9 (A 9, .inr (3, ([.int (gi u 52), .int (gi u 53), .ref (A 40)] : List Value).set 0 (.int x))) = cw C A (si u 52 x) := cw_set (by decide) rfl rfl
theorem cws53 (C : Nat → ClassId) (A : Nat → Nat) (u : St) (x : Int32) : (cw C A u).set 9 (A 9, .inr (3, ([.int (gi u 52), .int (gi u 53), .ref (A 40)] : List Value).set 1 (.int x))) = cw C A (si u 53 x) := cw_set (by decide) rfl rfl
theorem cws54 (C : Nat → ClassId) (A : Nat → Nat) (u : St) (x : Int32) : (cw C A u).set 10 (A 10, .inr (3, ([.int (gi u 54), .int (gi u 55), .ref (A 41)] : List Value).set 0 (.int x))) = cw C A (si u 54 x) := cw_set (by decide) rfl rfl
theorem cws55 (C : Nat → ClassId) (A : Nat → Nat) (u : St) (x : Int32) : (cw C A u).set 10 (A 10, .inr (3, ([.int (gi u 54), .int (gi u 55), .ref (A 41)] : List Value).set 1 (.int x))) = cw C A (si u 55 x) := cw_set (by decide) rfl rfl
theorem cws56 (C : Nat → ClassId) (A : Nat → Nat) (u : St) (x : Int32) : (cw C A u).set 11 (A 11, .inr (3, ([.int (gi u 56), .int (gi u 57), .ref (A 42)] : List Value).set 0 (.int x))) = cw C A (si u 56 x) := cw_set (by decide) rfl rfl
theorem cws57 (C : Nat → ClassId) (A : Nat → Nat) (u : St) (x : Int32) : (cw C A u).set 11 (A 11, .inr (3, ([.int (gi u 56), .int (gi u 57), .ref (A 42)] : List Value).set 1 (.int x))) = cw C A (si u 57 x) := cw_set (by decide) rfl rfl
theorem cws58 (C : Nat → ClassId) (A : Nat → Nat) (u : St) (x : Int32) : (cw C A u).set 12 (A 12, .inr (1, ([.int (gi u 58), .int (gi u 59), .int (gi u 60), .int (gi u 61), .int (gi u 62), .int (gi u 63), .int (gi u 64), .int (gi u 65), .ref (A 43), .ref (A 20), .ref (A 21), .ref (A 44), .ref (A 45), .ref (A 46), .ref (A 47)] : List Value).set 0 (.int x))) = cw C A (si u 58 x) := cw_set (by decide) rfl rfl
theorem cws59 (C : Nat → ClassId) (A : Nat → Nat) (u : St) (x : Int32) : (cw C A u).set 12 (A 12, .inr (1, ([.int (gi u 58), .int (gi u 59), .int (gi u 60), .int (gi u 61), .int (gi u 62), .int (gi u 63), .int (gi u 64), .int (gi u 65), .ref (A 43), .ref (A 20), .ref (A 21), .ref (A 44), .ref (A 45), .ref (A 46), .ref (A 47)] : List Value).set 1 (.int x))) = cw C A (si u 59 x) := cw_set (by decide) rfl rfl
theorem cws60 (C : Nat → ClassId) (A : Nat → Nat) (u : St) (x : Int32) : (cw C A u).set 12 (A 12, .inr (1, ([.int (gi u 58), .int (gi u 59), .int (gi u 60), .int (gi u 61), .int (gi u 62), .int (gi u 63), .int (gi u 64), .int (gi u 65), .ref (A 43), .ref (A 20), .ref (A 21), .ref (A 44), .ref (A 45), .ref (A 46), .ref (A 47)] : List Value).set 2 (.int x))) = cw C A (si u 60 x) := cw_set (by decide) rfl rfl
theorem cws61 (C : Nat → ClassId) (A : Nat → Nat) (u : St) (x : Int32) : (cw C A u).set 12 (A 12, .inr (1, ([.int (gi u 58), .int (gi u 59), .int (gi u 60), .int (gi u 61), .int (gi u 62), .int (gi u 63), .int (gi u 64), .int (gi u 65), .ref (A 43), .ref (A 20), .ref (A 21), .ref (A 44), .ref (A 45), .ref (A 46), .ref (A 47)] : List Value).set 3 (.int x))) = cw C A (si u 61 x) := cw_set (by decide) rfl rfl
theorem cws62 (C : Nat → ClassId) (A : Nat → Nat) (u : St) (x : Int32) : (cw C A u).set 12 (A 12, .inr (1, ([.int (gi u 58), .int (gi u 59), .int (gi u 60), .int (gi u 61), .int (gi u 62), .int (gi u 63), .int (gi u 64), .int (gi u 65), .ref (A 43), .ref (A 20), .ref (A 21), .ref (A 44), .ref (A 45), .ref (A 46), .ref (A 47)] : List Value).set 4 (.int x))) = cw C A (si u 62 x) := cw_set (by decide) rfl rfl
theorem cws63 (C : Nat → ClassId) (A : Nat → Nat) (u : St) (x : Int32) : (cw C A u).set 12 (A 12, .inr (1, ([.int (gi u 58), .int (gi u 59), .int (gi u 60), .int (gi u 61), .int (gi u 62), .int (gi u 63), .int (gi u 64), .int (gi u 65), .ref (A 43), .ref (A 20), .ref (A 21), .ref (A 44), .ref (A 45), .ref (A 46), .ref (A 47)] : List Value).set 5 (.int x))) = cw C A (si u 63 x) := cw_set (by decide) rfl rfl
theorem cws64 (C : Nat → ClassId) (A : Nat → Nat) (u : St) (x : Int32) : (cw C A u).set 12 (A 12, .inr (1, ([.int (gi u 58), .int (gi u 59), .int (gi u 60), .int (gi u 61), .int (gi u 62), .int (gi u 63), .int (gi u 64), .int (gi u 65), .ref (A 43), .ref (A 20), .ref (A 21), .ref (A 44), .ref (A 45), .ref (A 46), .ref (A 47)] : List Value).set 6 (.int x))) = cw C A (si u 64 x) := cw_set (by decide) rfl rfl
theorem cws65 (C : Nat → ClassId) (A : Nat → Nat) (u : St) (x : Int32) : (cw C A u).set 12 (A 12, .inr (1, ([.int (gi u 58), .int (gi u 59), .int (gi u 60), .int (gi u 61), .int (gi u 62), .int (gi u 63), .int (gi u 64), .int (gi u 65), .ref (A 43), .ref (A 20), .ref (A 21), .ref (A 44), .ref (A 45), .ref (A 46), .ref (A 47)] : List Value).set 7 (.int x))) = cw C A (si u 65 x) := cw_set (by decide) rfl rfl
theorem cws66 (C : Nat → ClassId) (A : Nat → Nat) (u : St) (x : Int32) : (cw C A u).set 13 (A 13, .inr (0, ([.int (gi u 66), .int (gi u 67), .ref (A 77), .ref (A 78), .ref (A 79), .ref (A 80)] : List Value).set 0 (.int x))) = cw C A (si u 66 x) := cw_set (by decide) rfl rfl
theorem cws67 (C : Nat → ClassId) (A : Nat → Nat) (u : St) (x : Int32) : (cw C A u).set 13 (A 13, .inr (0, ([.int (gi u 66), .int (gi u 67), .ref (A 77), .ref (A 78), .ref (A 79), .ref (A 80)] : List Value).set 1 (.int x))) = cw C A (si u 67 x) := cw_set (by decide) rfl rfl
theorem cws68 (C : Nat → ClassId) (A : Nat → Nat) (u : St) (x : Int32) : (cw C A u).set 14 (A 14, .inr (2, ([.int (gi u 68), .int (gi u 69), .int (gi u 70), .ref (A 81), .ref (A 48), .ref (A 49)] : List Value).set 0 (.int x))) = cw C A (si u 68 x) := cw_set (by decide) rfl rfl
theorem cws69 (C : Nat → ClassId) (A : Nat → Nat) (u : St) (x : Int32) : (cw C A u).set 14 (A 14, .inr (2, ([.int (gi u 68), .int (gi u 69), .int (gi u 70), .ref (A 81), .ref (A 48), .ref (A 49)] : List Value).set 1 (.int x))) = cw C A (si u 69 x) := cw_set (by decide) rfl rfl
theorem cws70 (C : Nat → ClassId) (A : Nat → Nat) (u : St) (x : Int32) : (cw C A u).set 14 (A 14, .inr (2, ([.int (gi u 68), .int (gi u 69), .int (gi u 70), .ref (A 81), .ref (A 48), .ref (A 49)] : List Value).set 2 (.int x))) = cw C A (si u 70 x) := cw_set (by decide) rfl rfl
theorem cws71 (C : Nat → ClassId) (A : Nat → Nat) (u : St) (x : Int32) : (cw C A u).set 15 (A 15, .inr (8, ([.int (gi u 71), .int (gi u 72), .int (gi u 73), .int (gi u 74), .int (gi u 75), .int (gi u 76), .ref (A 50), .ref (A 51), .ref (A 82)] : List Value).set 0 (.int x))) = cw C A (si u 71 x) := cw_set (by decide) rfl rfl
theorem cws72 (C : Nat → ClassId) (A : Nat → Nat) (u : St) (x : Int32) : (cw C A u).set 15 (A 15, .inr (8, ([.int (gi u 71), .int (gi u 72), .int (gi u 73), .int (gi u 74), .int (gi u 75), .int (gi u 76), .ref (A 50), .ref (A 51), .ref (A 82)] : List Value).set 1 (.int x))) = cw C A (si u 72 x) := cw_set (by decide) rfl rfl
theorem cws73 (C : Nat → ClassId) (A : Nat → Nat) (u : St) (x : Int32) : (cw C A u).set 15 (A 15, .inr (8, ([.int (gi u 71), .int (gi u 72), .int (gi u 73), .int (gi u 74), .int (gi u 75), .int (gi u 76), .ref (A 50), .ref (A 51), .ref (A 82)] : List Value).set 2 (.int x))) = cw C A (si u 73 x) := cw_set (by decide) rfl rfl
theorem cws74 (C : Nat → ClassId) (A : Nat → Nat) (u : St) (x : Int32) : (cw C A u).set 15 (A 15, .inr (8, ([.int (gi u 71), .int (gi u 72), .int (gi u 73), .int (gi u 74), .int (gi u 75), .int (gi u 76), .ref (A 50), .ref (A 51), .ref (A 82)] : List Value).set 3 (.int x))) = cw C A (si u 74 x) := cw_set (by decide) rfl rfl
theorem cws75 (C : Nat → ClassId) (A : Nat → Nat) (u : St) (x : Int32) : (cw C A u).set 15 (A 15, .inr (8, ([.int (gi u 71), .int (gi u 72), .int (gi u 73), .int (gi u 74), .int (gi u 75), .int (gi u 76), .ref (A 50), .ref (A 51), .ref (A 82)] : List Value).set 4 (.int x))) = cw C A (si u 75 x) := cw_set (by decide) rfl rfl
theorem cws76 (C : Nat → ClassId) (A : Nat → Nat) (u : St) (x : Int32) : (cw C A u).set 15 (A 15, .inr (8, ([.int (gi u 71), .int (gi u 72), .int (gi u 73), .int (gi u 74), .int (gi u 75), .int (gi u 76), .ref (A 50), .ref (A 51), .ref (A 82)] : List Value).set 5 (.int x))) = cw C A (si u 76 x) := cw_set (by decide) rfl rfl
theorem cws77 (C : Nat → ClassId) (A : Nat → Nat) (u : St) (x : Int32) : (cw C A u).set 16 (A 16, .inr (4, ([.int (gi u 77), .int (gi u 78), .ref (A 83), .long (gl u 0)] : List Value).set 0 (.int x))) = cw C A (si u 77 x) := cw_set (by decide) rfl rfl
theorem cws78 (C : Nat → ClassId) (A : Nat → Nat) (u : St) (x : Int32) : (cw C A u).set 16 (A 16, .inr (4, ([.int (gi u 77), .int (gi u 78), .ref (A 83), .long (gl u 0)] : List Value).set 1 (.int x))) = cw C A (si u 78 x) := cw_set (by decide) rfl rfl
theorem cwl0 (C : Nat → ClassId) (A : Nat → Nat) (u : St) (x : Int64) : (cw C A u).set 16 (A 16, .inr (4, ([.int (gi u 77), .int (gi u 78), .ref (A 83), .long (gl u 0)] : List Value).set 3 (.long x))) = cw C A (sl u 0 x) := cw_set (by decide) rfl rfl
theorem cwa22 (C : Nat → ClassId) (A : Nat → Nat) (u : St) : ∀ f, (cw C A u).set 22 (A 22, .inl (C 0, 800, .inl f)) = cw C A (sa u 22 f) := fun f => cw_set (by decide) rfl rfl
theorem cwa23 (C : Nat → ClassId) (A : Nat → Nat) (u : St) : ∀ f, (cw C A u).set 23 (A 23, .inl (C 1, 40, .inl f)) = cw C A (sa u 23 f) := fun f => cw_set (by decide) rfl rfl
theorem cwa24 (C : Nat → ClassId) (A : Nat → Nat) (u : St) : ∀ f, (cw C A u).set 24 (A 24, .inl (C 1, 40, .inl f)) = cw C A (sa u 24 f) := fun f => cw_set (by decide) rfl rfl
theorem cwa25 (C : Nat → ClassId) (A : Nat → Nat) (u : St) : ∀ f, (cw C A u).set 25 (A 25, .inl (C 1, 40, .inl f)) = cw C A (sa u 25 f) := fun f => cw_set (by decide) rfl rfl
theorem cwa26 (C : Nat → ClassId) (A : Nat → Nat) (u : St) : ∀ f, (cw C A u).set 26 (A 26, .inl (C 1, 40, .inl f)) = cw C A (sa u 26 f) := fun f => cw_set (by decide) rfl rfl
theorem cwa27 (C : Nat → ClassId) (A : Nat → Nat) (u : St) : ∀ f, (cw C A u).set 27 (A 27, .inl (C 1, 40, .inl f)) = cw C A (sa u 27 f) := fun f => cw_set (by decide) rfl rfl
theorem cwa28 (C : Nat → ClassId) (A : Nat → Nat) (u : St) : ∀ f, (cw C A u).set 28 (A 28, .inl (C 1, 40, .inl f)) = cw C A (sa u 28 f) := fun f => cw_set (by decide) rfl rfl
theorem cwa29 (C : Nat → ClassId) (A : Nat → Nat) (u : St) : ∀ f, (cw C A u).set 29 (A 29, .inl (C 1, 40, .inl f)) = cw C A (sa u 29 f) := fun f => cw_set (by decide) rfl rfl
theorem cwa30 (C : Nat → ClassId) (A : Nat → Nat) (u : St) : ∀ f, (cw C A u).set 30 (A 30, .inl (C 1, 40, .inl f)) = cw C A (sa u 30 f) := fun f => cw_set (by decide) rfl rfl
theorem cwa31 (C : Nat → ClassId) (A : Nat → Nat) (u : St) : ∀ f, (cw C A u).set 31 (A 31, .inl (C 1, 40, .inl f)) = cw C A (sa u 31 f) := fun f => cw_set (by decide) rfl rfl
theorem cwa32 (C : Nat → ClassId) (A : Nat → Nat) (u : St) : ∀ f, (cw C A u).set 32 (A 32, .inl (C 1, 40, .inl f)) = cw C A (sa u 32 f) := fun f => cw_set (by decide) rfl rfl
theorem cwa33 (C : Nat → ClassId) (A : Nat → Nat) (u : St) : ∀ f, (cw C A u).set 33 (A 33, .inl (C 1, 40, .inl f)) = cw C A (sa u 33 f) := fun f => cw_set (by decide) rfl rfl
theorem cwa34 (C : Nat → ClassId) (A : Nat → Nat) (u : St) : ∀ f, (cw C A u).set 34 (A 34, .inl (C 1, 40, .inl f)) = cw C A (sa u 34 f) := fun f => cw_set (by decide) rfl rfl
theorem cwa35 (C : Nat → ClassId) (A : Nat → Nat) (u : St) : ∀ f, (cw C A u).set 35 (A 35, .inl (C 1, 40, .inl f)) = cw C A (sa u 35 f) := fun f => cw_set (by decide) rfl rfl
theorem cwa36 (C : Nat → ClassId) (A : Nat → Nat) (u : St) : ∀ f, (cw C A u).set 36 (A 36, .inl (C 1, 40, .inl f)) = cw C A (sa u 36 f) := fun f => cw_set (by decide) rfl rfl
theorem cwa37 (C : Nat → ClassId) (A : Nat → Nat) (u : St) : ∀ f, (cw C A u).set 37 (A 37, .inl (C 1, 40, .inl f)) = cw C A (sa u 37 f) := fun f => cw_set (by decide) rfl rfl
theorem cwa38 (C : Nat → ClassId) (A : Nat → Nat) (u : St) : ∀ f, (cw C A u).set 38 (A 38, .inl (C 1, 7, .inl f)) = cw C A (sa u 38 f) := fun f => cw_set (by decide) rfl rfl
theorem cwb39 (C : Nat → ClassId) (A : Nat → Nat) (u : St) : ∀ f, (cw C A u).set 39 (A 39, .inl (C 2, 60, .inr (.inl f))) = cw C A (sb u 39 f) := fun f => cw_set (by decide) rfl rfl
theorem cwb40 (C : Nat → ClassId) (A : Nat → Nat) (u : St) : ∀ f, (cw C A u).set 40 (A 40, .inl (C 2, 60, .inr (.inl f))) = cw C A (sb u 40 f) := fun f => cw_set (by decide) rfl rfl
theorem cwb41 (C : Nat → ClassId) (A : Nat → Nat) (u : St) : ∀ f, (cw C A u).set 41 (A 41, .inl (C 2, 60, .inr (.inl f))) = cw C A (sb u 41 f) := fun f => cw_set (by decide) rfl rfl
theorem cwb42 (C : Nat → ClassId) (A : Nat → Nat) (u : St) : ∀ f, (cw C A u).set 42 (A 42, .inl (C 2, 60, .inr (.inl f))) = cw C A (sb u 42 f) := fun f => cw_set (by decide) rfl rfl
theorem cwa43 (C : Nat → ClassId) (A : Nat → Nat) (u : St) : ∀ f, (cw C A u).set 43 (A 43, .inl (C 1, 7, .inl f)) = cw C A (sa u 43 f) := fun f => cw_set (by decide) rfl rfl
theorem cwa44 (C : Nat → ClassId) (A : Nat → Nat) (u : St) : ∀ f, (cw C A u).set 44 (A 44, .inl (C 1, 7, .inl f)) = cw C A (sa u 44 f) := fun f => cw_set (by decide) rfl rfl
theorem cwa45 (C : Nat → ClassId) (A : Nat → Nat) (u : St) : ∀ f, (cw C A u).set 45 (A 45, .inl (C 1, 7, .inl f)) = cw C A (sa u 45 f) := fun f => cw_set (by decide) rfl rfl
theorem cwa46 (C : Nat → ClassId) (A : Nat → Nat) (u : St) : ∀ f, (cw C A u).set 46 (A 46, .inl (C 1, 7, .inl f)) = cw C A (sa u 46 f) := fun f => cw_set (by decide) rfl rfl
theorem cwa47 (C : Nat → ClassId) (A : Nat → Nat) (u : St) : ∀ f, (cw C A u).set 47 (A 47, .inl (C 1, 7, .inl f)) = cw C A (sa u 47 f) := fun f => cw_set (by decide) rfl rfl
theorem cwa48 (C : Nat → ClassId) (A : Nat → Nat) (u : St) : ∀ f, (cw C A u).set 48 (A 48, .inl (C 1, 36, .inl f)) = cw C A (sa u 48 f) := fun f => cw_set (by decide) rfl rfl
theorem cwa49 (C : Nat → ClassId) (A : Nat → Nat) (u : St) : ∀ f, (cw C A u).set 49 (A 49, .inl (C 1, 36, .inl f)) = cw C A (sa u 49 f) := fun f => cw_set (by decide) rfl rfl
theorem cwa50 (C : Nat → ClassId) (A : Nat → Nat) (u : St) : ∀ f, (cw C A u).set 50 (A 50, .inl (C 1, 30, .inl f)) = cw C A (sa u 50 f) := fun f => cw_set (by decide) rfl rfl
theorem cwa51 (C : Nat → ClassId) (A : Nat → Nat) (u : St) : ∀ f, (cw C A u).set 51 (A 51, .inl (C 1, 30, .inl f)) = cw C A (sa u 51 f) := fun f => cw_set (by decide) rfl rfl
theorem cwc52 (C : Nat → ClassId) (A : Nat → Nat) (u : St) : (cw C A u)[52]? = some (A 52, .inl (C 1, 6, .inl (ga u 52))) := cwp C A u 0 (by decide)
theorem cwa52 (C : Nat → ClassId) (A : Nat → Nat) (u : St) : ∀ f, (cw C A u).set 52 (A 52, .inl (C 1, 6, .inl f)) = cw C A (sa u 52 f) := cwq C A u 0 (by decide)
theorem cwc53 (C : Nat → ClassId) (A : Nat → Nat) (u : St) : (cw C A u)[53]? = some (A 53, .inl (C 1, 6, .inl (ga u 53))) := cwp C A u 1 (by decide)
theorem cwa53 (C : Nat → ClassId) (A : Nat → Nat) (u : St) : ∀ f, (cw C A u).set 53 (A 53, .inl (C 1, 6, .inl f)) = cw C A (sa u 53 f) := cwq C A u 1 (by decide)
theorem cwc54 (C : Nat → ClassId) (A : Nat → Nat) (u : St) : (cw C A u)[54]? = some (A 54, .inl (C 1, 6, .inl (ga u 54))) := cwp C A u 2 (by decide)
theorem cwa54 (C : Nat → ClassId) (A : Nat → Nat) (u : St) : ∀ f, (cw C A u).set 54 (A 54, .inl (C 1, 6, .inl f)) = cw C A (sa u 54 f) := cwq C A u 2 (by decide)
theorem cwc55 (C : Nat → ClassId) (A : Nat → Nat) (u : St) : (cw C A u)[55]? = some (A 55, .inl (C 1, 6, .inl (ga u 55))) := cwp C A u 3 (by decide)
theorem cwa55 (C : Nat → ClassId) (A : Nat → Nat) (u : St) : ∀ f, (cw C A u).set 55 (A 55, .inl (C 1, 6, .inl f)) = cw C A (sa u 55 f) := cwq C A u 3 (by decide)
theorem cwc56 (C : Nat → ClassId) (A : Nat → Nat) (u : St) : (cw C A u)[56]? = some (A 56, .inl (C 1, 6, .inl (ga u 56))) := cwp C A u 4 (by decide)
theorem cwa56 (C : Nat → ClassId) (A : Nat → Nat) (u : St) : ∀ f, (cw C A u).set 56 (A 56, .inl (C 1, 6, .inl f)) = cw C A (sa u 56 f) := cwq C A u 4 (by decide)
theorem cwc57 (C : Nat → ClassId) (A : Nat → Nat) (u : St) : (cw C A u)[57]? = some (A 57, .inl (C 1, 6, .inl (ga u 57))) := cwp C A u 5 (by decide)
theorem cwa57 (C : Nat → ClassId) (A : Nat → Nat) (u : St) : ∀ f, (cw C A u).set 57 (A 57, .inl (C 1, 6, .inl f)) = cw C A (sa u 57 f) := cwq C A u 5 (by decide)
theorem cwc58 (C : Nat → ClassId) (A : Nat → Nat) (u : St) : (cw C A u)[58]? = some (A 58, .inl (C 1, 6, .inl (ga u 58))) := cwp C A u 6 (by decide)
theorem cwa58 (C : Nat → ClassId) (A : Nat → Nat) (u : St) : ∀ f, (cw C A u).set 58 (A 58, .inl (C 1, 6, .inl f)) = cw C A (sa u 58 f) := cwq C A u 6 (by decide)
theorem cwc59 (C : Nat → ClassId) (A : Nat → Nat) (u : St) : (cw C A u)[59]? = some (A 59, .inl (C 1, 6, .inl (ga u 59))) := cwp C A u 7 (by decide)
theorem cwa59 (C : Nat → ClassId) (A : Nat → Nat) (u : St) : ∀ f, (cw C A u).set 59 (A 59, .inl (C 1, 6, .inl f)) = cw C A (sa u 59 f) := cwq C A u 7 (by decide)
theorem cwc60 (C : Nat → ClassId) (A : Nat → Nat) (u : St) : (cw C A u)[60]? = some (A 60, .inl (C 1, 6, .inl (ga u 60))) := cwp C A u 8 (by decide)
theorem cwa60 (C : Nat → ClassId) (A : Nat → Nat) (u : St) : ∀ f, (cw C A u).set 60 (A 60, .inl (C 1, 6, .inl f)) = cw C A (sa u 60 f) := cwq C A u 8 (by decide)
theorem cwc61 (C : Nat → ClassId) (A : Nat → Nat) (u : St) : (cw C A u)[61]? = some (A 61, .inl (C 1, 6, .inl (ga u 61))) := cwp C A u 9 (by decide)
theorem cwa61 (C : Nat → ClassId) (A : Nat → Nat) (u : St) : ∀ f, (cw C A u).set 61 (A 61, .inl (C 1, 6, .inl f)) = cw C A (sa u 61 f) := cwq C A u 9 (by decide)
theorem cwc62 (C : Nat → ClassId) (A : Nat → Nat) (u : St) : (cw C A u)[62]? = some (A 62, .inl (C 1, 6, .inl (ga u 62))) := cwp C A u 10 (by decide)
theorem cwa62 (C : Nat → ClassId) (A : Nat → Nat) (u : St) : ∀ f, (cw C A u).set 62 (A 62, .inl (C 1, 6, .inl f)) = cw C A (sa u 62 f) := cwq C A u 10 (by decide)
theorem cwc63 (C : Nat → ClassId) (A : Nat → Nat) (u : St) : (cw C A u)[63]? = some (A 63, .inl (C 1, 6, .inl (ga u 63))) := cwp C A u 11 (by decide)
theorem cwa63 (C : Nat → ClassId) (A : Nat → Nat) (u : St) : ∀ f, (cw C A u).set 63 (A 63, .inl (C 1, 6, .inl f)) = cw C A (sa u 63 f) := cwq C A u 11 (by decide)
theorem cwc64 (C : Nat → ClassId) (A : Nat → Nat) (u : St) : (cw C A u)[64]? = some (A 64, .inl (C 1, 6, .inl (ga u 64))) := cwp C A u 12 (by decide)
theorem cwa64 (C : Nat → ClassId) (A : Nat → Nat) (u : St) : ∀ f, (cw C A u).set 64 (A 64, .inl (C 1, 6, .inl f)) = cw C A (sa u 64 f) := cwq C A u 12 (by decide)
theorem cwc65 (C : Nat → ClassId) (A : Nat → Nat) (u : St) : (cw C A u)[65]? = some (A 65, .inl (C 1, 6, .inl (ga u 65))) := cwp C A u 13 (by decide)
theorem cwa65 (C : Nat → ClassId) (A : Nat → Nat) (u : St) : ∀ f, (cw C A u).set 65 (A 65, .inl (C 1, 6, .inl f)) = cw C A (sa u 65 f) := cwq C A u 13 (by decide)
theorem cwc66 (C : Nat → ClassId) (A : Nat → Nat) (u : St) : (cw C A u)[66]? = some (A 66, .inl (C 1, 6, .inl (ga u 66))) := cwp C A u 14 (by decide)
theorem cwa66 (C : Nat → ClassId) (A : Nat → Nat) (u : St) : ∀ f, (cw C A u).set 66 (A 66, .inl (C 1, 6, .inl f)) = cw C A (sa u 66 f) := cwq C A u 14 (by decide)
theorem cwc67 (C : Nat → ClassId) (A : Nat → Nat) (u : St) : (cw C A u)[67]? = some (A 67, .inl (C 1, 6, .inl (ga u 67))) := cwp C A u 15 (by decide)
theorem cwa67 (C : Nat → ClassId) (A : Nat → Nat) (u : St) : ∀ f, (cw C A u).set 67 (A 67, .inl (C 1, 6, .inl f)) = cw C A (sa u 67 f) := cwq C A u 15 (by decide)
theorem cwc68 (C : Nat → ClassId) (A : Nat → Nat) (u : St) : (cw C A u)[68]? = some (A 68, .inl (C 1, 6, .inl (ga u 68))) := cwp C A u 16 (by decide)
theorem cwa68 (C : Nat → ClassId) (A : Nat → Nat) (u : St) : ∀ f, (cw C A u).set 68 (A 68, .inl (C 1, 6, .inl f)) = cw C A (sa u 68 f) := cwq C A u 16 (by decide)
theorem cwc69 (C : Nat → ClassId) (A : Nat → Nat) (u : St) : (cw C A u)[69]? = some (A 69, .inl (C 1, 6, .inl (ga u 69))) := cwp C A u 17 (by decide)
theorem cwa69 (C : Nat → ClassId) (A : Nat → Nat) (u : St) : ∀ f, (cw C A u).set 69 (A 69, .inl (C 1, 6, .inl f)) = cw C A (sa u 69 f) := cwq C A u 17 (by decide)
theorem cwc70 (C : Nat → ClassId) (A : Nat → Nat) (u : St) : (cw C A u)[70]? = some (A 70, .inl (C 1, 6, .inl (ga u 70))) := cwp C A u 18 (by decide)
theorem cwa70 (C : Nat → ClassId) (A : Nat → Nat) (u : St) : ∀ f, (cw C A u).set 70 (A 70, .inl (C 1, 6, .inl f)) = cw C A (sa u 70 f) := cwq C A u 18 (by decide)
theorem cwc71 (C : Nat → ClassId) (A : Nat → Nat) (u : St) : (cw C A u)[71]? = some (A 71, .inl (C 1, 6, .inl (ga u 71))) := cwp C A u 19 (by decide)
theorem cwa71 (C : Nat → ClassId) (A : Nat → Nat) (u : St) : ∀ f, (cw C A u).set 71 (A 71, .inl (C 1, 6, .inl f)) = cw C A (sa u 71 f) := cwq C A u 19 (by decide)
theorem cwc72 (C : Nat → ClassId) (A : Nat → Nat) (u : St) : (cw C A u)[72]? = some (A 72, .inl (C 1, 6, .inl (ga u 72))) := cwp C A u 20 (by decide)
theorem cwa72 (C : Nat → ClassId) (A : Nat → Nat) (u : St) : ∀ f, (cw C A u).set 72 (A 72, .inl (C 1, 6, .inl f)) = cw C A (sa u 72 f) := cwq C A u 20 (by decide)
theorem cwc73 (C : Nat → ClassId) (A : Nat → Nat) (u : St) : (cw C A u)[73]? = some (A 73, .inl (C 1, 6, .inl (ga u 73))) := cwp C A u 21 (by decide)
theorem cwa73 (C : Nat → ClassId) (A : Nat → Nat) (u : St) : ∀ f, (cw C A u).set 73 (A 73, .inl (C 1, 6, .inl f)) = cw C A (sa u 73 f) := cwq C A u 21 (by decide)
theorem cwc74 (C : Nat → ClassId) (A : Nat → Nat) (u : St) : (cw C A u)[74]? = some (A 74, .inl (C 1, 6, .inl (ga u 74))) := cwp C A u 22 (by decide)
theorem cwa74 (C : Nat → ClassId) (A : Nat → Nat) (u : St) : ∀ f, (cw C A u).set 74 (A 74, .inl (C 1, 6, .inl f)) = cw C A (sa u 74 f) := cwq C A u 22 (by decide)
theorem cwc75 (C : Nat → ClassId) (A : Nat → Nat) (u : St) : (cw C A u)[75]? = some (A 75, .inl (C 1, 6, .inl (ga u 75))) := cwp C A u 23 (by decide)
theorem cwa75 (C : Nat → ClassId) (A : Nat → Nat) (u : St) : ∀ f, (cw C A u).set 75 (A 75, .inl (C 1, 6, .inl f)) = cw C A (sa u 75 f) := cwq C A u 23 (by decide)
theorem cwc76 (C : Nat → ClassId) (A : Nat → Nat) (u : St) : (cw C A u)[76]? = some (A 76, .inl (C 1, 6, .inl (ga u 76))) := cwp C A u 24 (by decide)
theorem cwa76 (C : Nat → ClassId) (A : Nat → Nat) (u : St) : ∀ f, (cw C A u).set 76 (A 76, .inl (C 1, 6, .inl f)) = cw C A (sa u 76 f) := cwq C A u 24 (by decide)
theorem cwc77 (C : Nat → ClassId) (A : Nat → Nat) (u : St) : (cw C A u)[77]? = some (A 77, .inl (C 1, 6, .inl (ga u 77))) := cwp C A u 25 (by decide)
theorem cwa77 (C : Nat → ClassId) (A : Nat → Nat) (u : St) : ∀ f, (cw C A u).set 77 (A 77, .inl (C 1, 6, .inl f)) = cw C A (sa u 77 f) := cwq C A u 25 (by decide)
theorem cwc78 (C : Nat → ClassId) (A : Nat → Nat) (u : St) : (cw C A u)[78]? = some (A 78, .inl (C 1, 6, .inl (ga u 78))) := cwp C A u 26 (by decide)
theorem cwa78 (C : Nat → ClassId) (A : Nat → Nat) (u : St) : ∀ f, (cw C A u).set 78 (A 78, .inl (C 1, 6, .inl f)) = cw C A (sa u 78 f) := cwq C A u 26 (by decide)
theorem cwc79 (C : Nat → ClassId) (A : Nat → Nat) (u : St) : (cw C A u)[79]? = some (A 79, .inl (C 1, 6, .inl (ga u 79))) := cwp C A u 27 (by decide)
theorem cwa79 (C : Nat → ClassId) (A : Nat → Nat) (u : St) : ∀ f, (cw C A u).set 79 (A 79, .inl (C 1, 6, .inl f)) = cw C A (sa u 79 f) := cwq C A u 27 (by decide)
theorem cwc80 (C : Nat → ClassId) (A : Nat → Nat) (u : St) : (cw C A u)[80]? = some (A 80, .inl (C 1, 6, .inl (ga u 80))) := cwp C A u 28 (by decide)
theorem cwa80 (C : Nat → ClassId) (A : Nat → Nat) (u : St) : ∀ f, (cw C A u).set 80 (A 80, .inl (C 1, 6, .inl f)) = cw C A (sa u 80 f) := cwq C A u 28 (by decide)
theorem cwc81 (C : Nat → ClassId) (A : Nat → Nat) (u : St) : (cw C A u)[81]? = some (A 81, .inl (C 1, 6, .inl (ga u 81))) := cwp C A u 29 (by decide)
theorem cwa81 (C : Nat → ClassId) (A : Nat → Nat) (u : St) : ∀ f, (cw C A u).set 81 (A 81, .inl (C 1, 6, .inl f)) = cw C A (sa u 81 f) := cwq C A u 29 (by decide)
theorem cwc82 (C : Nat → ClassId) (A : Nat → Nat) (u : St) : (cw C A u)[82]? = some (A 82, .inl (C 1, 6, .inl (ga u 82))) := cwp C A u 30 (by decide)
theorem cwa82 (C : Nat → ClassId) (A : Nat → Nat) (u : St) : ∀ f, (cw C A u).set 82 (A 82, .inl (C 1, 6, .inl f)) = cw C A (sa u 82 f) := cwq C A u 30 (by decide)
theorem cwc83 (C : Nat → ClassId) (A : Nat → Nat) (u : St) : (cw C A u)[83]? = some (A 83, .inl (C 1, 6, .inl (ga u 83))) := cwp C A u 31 (by decide)
theorem cwa83 (C : Nat → ClassId) (A : Nat → Nat) (u : St) : ∀ f, (cw C A u).set 83 (A 83, .inl (C 1, 6, .inl f)) = cw C A (sa u 83 f) := cwq C A u 31 (by decide)
def ICb : List (Nat × Int × Int) := [(1, 0, 800), (4, 0, 800), (5, 0, 800), (9, 0, 7), (12, 0, 6), (15, 0, 40), (20, 0, 6), (23, 0, 40), (25, 0, 7), (28, 0, 6), (31, 0, 40), (33, 0, 7), (36, 0, 6), (39, 0, 40), (41, 0, 7), (44, 0, 6), (47, 0, 40), (48, 0, 7), (49, 0, 6), (50, -1, 60), (52, -1, 60), (54, -1, 60), (56, -1, 60), (61, 0, 7), (62, 0, 6), (67, 0, 6), (76, 0, 30)]
def ICa : List (Nat × Int × Int) := [(50, 0, 6)]
def IC (u : St) : Prop := (∀ q ∈ ICb, q.2.1 ≤ (gi u q.1).toInt ∧ (gi u q.1).toInt ≤ q.2.2) ∧ (∀ q ∈ ICa, ∀ j, q.2.1 ≤ (ga u q.1 j).toInt ∧ (ga u q.1 j).toInt ≤ q.2.2) ∧ (gi u 2 = 0 → 0 ≤ (gi u 17).toInt ∧ (gi u 17).toInt ≤ 7)
theorem IC.b1 {u : St} (h : IC u) : 0 ≤ (gi u 1).toInt ∧ (gi u 1).toInt ≤ 800 := h.1 (1, 0, 800) (by decide)
theorem IC.b4 {u : St} (h : IC u) : 0 ≤ (gi u 4).toInt ∧ (gi u 4).toInt ≤ 800 := h.1 (4, 0, 800) (by decide)
theorem IC.b5 {u : St} (h : IC u) : 0 ≤ (gi u 5).toInt ∧ (gi u 5).toInt ≤ 800 := h.1 (5, 0, 800) (by decide)
theorem IC.b9 {u : St} (h : IC u) : 0 ≤ (gi u 9).toInt ∧ (gi u 9).toInt ≤ 7 := h.1 (9, 0, 7) (by decide)
theorem IC.b12 {u : St} (h : IC u) : 0 ≤ (gi u 12).toInt ∧ (gi u 12).toInt ≤ 6 := h.1 (12, 0, 6) (by decide)
theorem IC.b15 {u : St} (h : IC u) : 0 ≤ (gi u 15).toInt ∧ (gi u 15).toInt ≤ 40 := h.1 (15, 0, 40) (by decide)
theorem IC.b20 {u : St} (h : IC u) : 0 ≤ (gi u 20).toInt ∧ (gi u 20).toInt ≤ 6 := h.1 (20, 0, 6) (by decide)
theorem IC.b23 {u : St} (h : IC u) : 0 ≤ (gi u 23).toInt ∧ (gi u 23).toInt ≤ 40 := h.1 (23, 0, 40) (by decide)
theorem IC.b25 {u : St} (h : IC u) : 0 ≤ (gi u 25).toInt ∧ (gi u 25).toInt ≤ 7 := h.1 (25, 0, 7) (by decide)
theorem IC.b28 {u : St} (h : IC u) : 0 ≤ (gi u 28).toInt ∧ (gi u 28).toInt ≤ 6 := h.1 (28, 0, 6) (by decide)
theorem IC.b31 {u : St} (h : IC u) : 0 ≤ (gi u 31).toInt ∧ (gi u 31).toInt ≤ 40 := h.1 (31, 0, 40) (by decide)
theorem IC.b33 {u : St} (h : IC u) : 0 ≤ (gi u 33).toInt ∧ (gi u 33).toInt ≤ 7 := h.1 (33, 0, 7) (by decide)
theorem IC.b36 {u : St} (h : IC u) : 0 ≤ (gi u 36).toInt ∧ (gi u 36).toInt ≤ 6 := h.1 (36, 0, 6) (by decide)
theorem IC.b39 {u : St} (h : IC u) : 0 ≤ (gi u 39).toInt ∧ (gi u 39).toInt ≤ 40 := h.1 (39, 0, 40) (by decide)
theorem IC.b41 {u : St} (h : IC u) : 0 ≤ (gi u 41).toInt ∧ (gi u 41).toInt ≤ 7 := h.1 (41, 0, 7) (by decide)
theorem IC.b44 {u : St} (h : IC u) : 0 ≤ (gi u 44).toInt ∧ (gi u 44).toInt ≤ 6 := h.1 (44, 0, 6) (by decide)
theorem IC.b47 {u : St} (h : IC u) : 0 ≤ (gi u 47).toInt ∧ (gi u 47).toInt ≤ 40 := h.1 (47, 0, 40) (by decide)
theorem IC.b48 {u : St} (h : IC u) : 0 ≤ (gi u 48).toInt ∧ (gi u 48).toInt ≤ 7 := h.1 (48, 0, 7) (by decide)
theorem IC.b49 {u : St} (h : IC u) : 0 ≤ (gi u 49).toInt ∧ (gi u 49).toInt ≤ 6 := h.1 (49, 0, 6) (by decide)
theorem IC.b50 {u : St} (h : IC u) : -1 ≤ (gi u 50).toInt ∧ (gi u 50).toInt ≤ 60 := h.1 (50, -1, 60) (by decide)
theorem IC.b52 {u : St} (h : IC u) : -1 ≤ (gi u 52).toInt ∧ (gi u 52).toInt ≤ 60 := h.1 (52, -1, 60) (by decide)
theorem IC.b54 {u : St} (h : IC u) : -1 ≤ (gi u 54).toInt ∧ (gi u 54).toInt ≤ 60 := h.1 (54, -1, 60) (by decide)
theorem IC.b56 {u : St} (h : IC u) : -1 ≤ (gi u 56).toInt ∧ (gi u 56).toInt ≤ 60 := h.1 (56, -1, 60) (by decide)
theorem IC.b61 {u : St} (h : IC u) : 0 ≤ (gi u 61).toInt ∧ (gi u 61).toInt ≤ 7 := h.1 (61, 0, 7) (by decide)
theorem IC.b62 {u : St} (h : IC u) : 0 ≤ (gi u 62).toInt ∧ (gi u 62).toInt ≤ 6 := h.1 (62, 0, 6) (by decide)
theorem IC.b67 {u : St} (h : IC u) : 0 ≤ (gi u 67).toInt ∧ (gi u 67).toInt ≤ 6 := h.1 (67, 0, 6) (by decide)
theorem IC.b76 {u : St} (h : IC u) : 0 ≤ (gi u 76).toInt ∧ (gi u 76).toInt ≤ 30 := h.1 (76, 0, 30) (by decide)
theorem IC.a50 {u : St} (h : IC u) (j : Nat) : 0 ≤ (ga u 50 j).toInt ∧ (ga u 50 j).toInt ≤ 6 := h.2.1 (50, 0, 6) (by decide) j
theorem IC.pi {u u1 : St} {k : Nat} {v : Int32} (h : IC u) (e : u1 = si u k v) (hb : ∀ q ∈ ICb, q.1 = k → q.2.1 ≤ v.toInt ∧ v.toInt ≤ q.2.2) (h0 : 2 ≠ k) (h1 : 17 ≠ k) : IC u1 := by
  refine ⟨fun q hq => ?_, fun q hq j => ?_, ?_⟩
  · by_cases hk : q.1 = k
    · rw [hk, gi_si e]; exact hb q hq hk
    · rw [gi_ne e hk]; exact h.1 q hq
  · rw [ga_si e]; exact h.2.1 q hq j
  · rw [gi_ne e h0, gi_ne e h1]; exact h.2.2
theorem IC.pi0 {u u1 : St} {k : Nat} {v : Int32} (h : IC u) (e : u1 = si u k v) (hb : ICb.all (fun q => q.1 != k) = true) (h0 : 2 ≠ k) (h1 : 17 ≠ k) : IC u1 := h.pi e (fun q hq hk => by have := List.all_eq_true.mp hb q hq; simp [hk] at this) h0 h1
theorem IC.s1 {u u1 : St} {v : Int32} {X : Int} (h : IC u) (e : u1 = si u 1 v) (hX : v.toInt = X) (h1 : 0 ≤ X) (h2 : X ≤ 800) : IC u1 := by
  refine h.pi e (fun q hq hk => ?_) (by decide) (by decide)
  subst hX
  simp only [ICb, List.mem_cons, List.not_mem_nil, or_false] at hq
  rcases hq with rfl | rfl | rfl | rfl | rfl | rfl | rfl | rfl | rfl | rfl | rfl | rfl | rfl | rfl | rfl | rfl | rfl | rfl | rfl | rfl | rfl | rfl | rfl | rfl | rfl | rfl | rfl <;> first | exact ⟨h1, h2⟩ | (exfalso; revert hk; decide)
theorem IC.s4 {u u1 : St} {v : Int32} {X : Int} (h : IC u) (e : u1 = si u 4 v) (hX : v.toInt = X) (h1 : 0 ≤ X) (h2 : X ≤ 800) : IC u1 := by
  refine h.pi e (fun q hq hk => ?_) (by decide) (by decide)
  subst hX
  simp only [ICb, List.mem_cons, List.not_mem_nil, or_false] at hq
  rcases hq with rfl | rfl | rfl | rfl | rfl | rfl | rfl | rfl | rfl | rfl | rfl | rfl | rfl | rfl | rfl | rfl | rfl | rfl | rfl | rfl | rfl | rfl | rfl | rfl | rfl | rfl | rfl <;> first | exact ⟨h1, h2⟩ | (exfalso; revert hk; decide)
theorem IC.s5 {u u1 : St} {v : Int32} {X : Int} (h : IC u) (e : u1 = si u 5 v) (hX : v.toInt = X) (h1 : 0 ≤ X) (h2 : X ≤ 800) : IC u1 := by
  refine h.pi e (fun q hq hk => ?_) (by decide) (by decide)
  subst hX
  simp only [ICb, List.mem_cons, List.not_mem_nil, or_false] at hq
  rcases hq with rfl | rfl | rfl | rfl | rfl | rfl | rfl | rfl | rfl | rfl | rfl | rfl | rfl | rfl | rfl | rfl | rfl | rfl | rfl | rfl | rfl | rfl | rfl | rfl | rfl | rfl | rfl <;> first | exact ⟨h1, h2⟩ | (exfalso; revert hk; decide)
theorem IC.s9 {u u1 : St} {v : Int32} {X : Int} (h : IC u) (e : u1 = si u 9 v) (hX : v.toInt = X) (h1 : 0 ≤ X) (h2 : X ≤ 7) : IC u1 := by
  refine h.pi e (fun q hq hk => ?_) (by decide) (by decide)
  subst hX
  simp only [ICb, List.mem_cons, List.not_mem_nil, or_false] at hq
  rcases hq with rfl | rfl | rfl | rfl | rfl | rfl | rfl | rfl | rfl | rfl | rfl | rfl | rfl | rfl | rfl | rfl | rfl | rfl | rfl | rfl | rfl | rfl | rfl | rfl | rfl | rfl | rfl <;> first | exact ⟨h1, h2⟩ | (exfalso; revert hk; decide)
theorem IC.s12 {u u1 : St} {v : Int32} {X : Int} (h : IC u) (e : u1 = si u 12 v) (hX : v.toInt = X) (h1 : 0 ≤ X) (h2 : X ≤ 6) : IC u1 := by
  refine h.pi e (fun q hq hk => ?_) (by decide) (by decide)
  subst hX
  simp only [ICb, List.mem_cons, List.not_mem_nil, or_false] at hq
  rcases hq with rfl | rfl | rfl | rfl | rfl | rfl | rfl | rfl | rfl | rfl | rfl | rfl | rfl | rfl | rfl | rfl | rfl | rfl | rfl | rfl | rfl | rfl | rfl | rfl | rfl | rfl | rfl <;> first | exact ⟨h1, h2⟩ | (exfalso; revert hk; decide)
theorem IC.s15 {u u1 : St} {v : Int32} {X : Int} (h : IC u) (e : u1 = si u 15 v) (hX : v.toInt = X) (h1 : 0 ≤ X) (h2 : X ≤ 40) : IC u1 := by
  refine h.pi e (fun q hq hk => ?_) (by decide) (by decide)
  subst hX
  simp only [ICb, List.mem_cons, List.not_mem_nil, or_false] at hq
  rcases hq with rfl | rfl | rfl | rfl | rfl | rfl | rfl | rfl | rfl | rfl | rfl | rfl | rfl | rfl | rfl | rfl | rfl | rfl | rfl | rfl | rfl | rfl | rfl | rfl | rfl | rfl | rfl <;> first | exact ⟨h1, h2⟩ | (exfalso; revert hk; decide)
theorem IC.s20 {u u1 : St} {v : Int32} {X : Int} (h : IC u) (e : u1 = si u 20 v) (hX : v.toInt = X) (h1 : 0 ≤ X) (h2 : X ≤ 6) : IC u1 := by
  refine h.pi e (fun q hq hk => ?_) (by decide) (by decide)
  subst hX
  simp only [ICb, List.mem_cons, List.not_mem_nil, or_false] at hq
  rcases hq with rfl | rfl | rfl | rfl | rfl | rfl | rfl | rfl | rfl | rfl | rfl | rfl | rfl | rfl | rfl | rfl | rfl | rfl | rfl | rfl | rfl | rfl | rfl | rfl | rfl | rfl | rfl <;> first | exact ⟨h1, h2⟩ | (exfalso; revert hk; decide)
theorem IC.s23 {u u1 : St} {v : Int32} {X : Int} (h : IC u) (e : u1 = si u 23 v) (hX : v.toInt = X) (h1 : 0 ≤ X) (h2 : X ≤ 40) : IC u1 := by
  refine h.pi e (fun q hq hk => ?_) (by decide) (by decide)
  subst hX
  simp only [ICb, List.mem_cons, List.not_mem_nil, or_false] at hq
  rcases hq with rfl | rfl | rfl | rfl | rfl | rfl | rfl | rfl | rfl | rfl | rfl | rfl | rfl | rfl | rfl | rfl | rfl | rfl | rfl | rfl | rfl | rfl | rfl | rfl | rfl | rfl | rfl <;> first | exact ⟨h1, h2⟩ | (exfalso; revert hk; decide)
theorem IC.s25 {u u1 : St} {v : Int32} {X : Int} (h : IC u) (e : u1 = si u 25 v) (hX : v.toInt = X) (h1 : 0 ≤ X) (h2 : X ≤ 7) : IC u1 := by
  refine h.pi e (fun q hq hk => ?_) (by decide) (by decide)
  subst hX
  simp only [ICb, List.mem_cons, List.not_mem_nil, or_false] at hq
  rcases hq with rfl | rfl | rfl | rfl | rfl | rfl | rfl | rfl | rfl | rfl | rfl | rfl | rfl | rfl | rfl | rfl | rfl | rfl | rfl | rfl | rfl | rfl | rfl | rfl | rfl | rfl | rfl <;> first | exact ⟨h1, h2⟩ | (exfalso; revert hk; decide)
theorem IC.s28 {u u1 : St} {v : Int32} {X : Int} (h : IC u) (e : u1 = si u 28 v) (hX : v.toInt = X) (h1 : 0 ≤ X) (h2 : X ≤ 6) : IC u1 := by
  refine h.pi e (fun q hq hk => ?_) (by decide) (by decide)
  subst hX
  simp only [ICb, List.mem_cons, List.not_mem_nil, or_false] at hq
  rcases hq with rfl | rfl | rfl | rfl | rfl | rfl | rfl | rfl | rfl | rfl | rfl | rfl | rfl | rfl | rfl | rfl | rfl | rfl | rfl | rfl | rfl | rfl | rfl | rfl | rfl | rfl | rfl <;> first | exact ⟨h1, h2⟩ | (exfalso; revert hk; decide)
theorem IC.s31 {u u1 : St} {v : Int32} {X : Int} (h : IC u) (e : u1 = si u 31 v) (hX : v.toInt = X) (h1 : 0 ≤ X) (h2 : X ≤ 40) : IC u1 := by
  refine h.pi e (fun q hq hk => ?_) (by decide) (by decide)
  subst hX
  simp only [ICb, List.mem_cons, List.not_mem_nil, or_false] at hq
  rcases hq with rfl | rfl | rfl | rfl | rfl | rfl | rfl | rfl | rfl | rfl | rfl | rfl | rfl | rfl | rfl | rfl | rfl | rfl | rfl | rfl | rfl | rfl | rfl | rfl | rfl | rfl | rfl <;> first | exact ⟨h1, h2⟩ | (exfalso; revert hk; decide)
theorem IC.s33 {u u1 : St} {v : Int32} {X : Int} (h : IC u) (e : u1 = si u 33 v) (hX : v.toInt = X) (h1 : 0 ≤ X) (h2 : X ≤ 7) : IC u1 := by
  refine h.pi e (fun q hq hk => ?_) (by decide) (by decide)
  subst hX
  simp only [ICb, List.mem_cons, List.not_mem_nil, or_false] at hq
  rcases hq with rfl | rfl | rfl | rfl | rfl | rfl | rfl | rfl | rfl | rfl | rfl | rfl | rfl | rfl | rfl | rfl | rfl | rfl | rfl | rfl | rfl | rfl | rfl | rfl | rfl | rfl | rfl <;> first | exact ⟨h1, h2⟩ | (exfalso; revert hk; decide)
theorem IC.s36 {u u1 : St} {v : Int32} {X : Int} (h : IC u) (e : u1 = si u 36 v) (hX : v.toInt = X) (h1 : 0 ≤ X) (h2 : X ≤ 6) : IC u1 := by
  refine h.pi e (fun q hq hk => ?_) (by decide) (by decide)
  subst hX
  simp only [ICb, List.mem_cons, List.not_mem_nil, or_false] at hq
  rcases hq with rfl | rfl | rfl | rfl | rfl | rfl | rfl | rfl | rfl | rfl | rfl | rfl | rfl | rfl | rfl | rfl | rfl | rfl | rfl | rfl | rfl | rfl | rfl | rfl | rfl | rfl | rfl <;> first | exact ⟨h1, h2⟩ | (exfalso; revert hk; decide)
theorem IC.s39 {u u1 : St} {v : Int32} {X : Int} (h : IC u) (e : u1 = si u 39 v) (hX : v.toInt = X) (h1 : 0 ≤ X) (h2 : X ≤ 40) : IC u1 := by
  refine h.pi e (fun q hq hk => ?_) (by decide) (by decide)
  subst hX
  simp only [ICb, List.mem_cons, List.not_mem_nil, or_false] at hq
  rcases hq with rfl | rfl | rfl | rfl | rfl | rfl | rfl | rfl | rfl | rfl | rfl | rfl | rfl | rfl | rfl | rfl | rfl | rfl | rfl | rfl | rfl | rfl | rfl | rfl | rfl | rfl | rfl <;> first | exact ⟨h1, h2⟩ | (exfalso; revert hk; decide)
theorem IC.s41 {u u1 : St} {v : Int32} {X : Int} (h : IC u) (e : u1 = si u 41 v) (hX : v.toInt = X) (h1 : 0 ≤ X) (h2 : X ≤ 7) : IC u1 := by
  refine h.pi e (fun q hq hk => ?_) (by decide) (by decide)
  subst hX
  simp only [ICb, List.mem_cons, List.not_mem_nil, or_false] at hq
  rcases hq with rfl | rfl | rfl | rfl | rfl | rfl | rfl | rfl | rfl | rfl | rfl | rfl | rfl | rfl | rfl | rfl | rfl | rfl | rfl | rfl | rfl | rfl | rfl | rfl | rfl | rfl | rfl <;> first | exact ⟨h1, h2⟩ | (exfalso; revert hk; decide)
theorem IC.s44 {u u1 : St} {v : Int32} {X : Int} (h : IC u) (e : u1 = si u 44 v) (hX : v.toInt = X) (h1 : 0 ≤ X) (h2 : X ≤ 6) : IC u1 := by
  refine h.pi e (fun q hq hk => ?_) (by decide) (by decide)
  subst hX
  simp only [ICb, List.mem_cons, List.not_mem_nil, or_false] at hq
  rcases hq with rfl | rfl | rfl | rfl | rfl | rfl | rfl | rfl | rfl | rfl | rfl | rfl | rfl | rfl | rfl | rfl | rfl | rfl | rfl | rfl | rfl | rfl | rfl | rfl | rfl | rfl | rfl <;> first | exact ⟨h1, h2⟩ | (exfalso; revert hk; decide)
theorem IC.s47 {u u1 : St} {v : Int32} {X : Int} (h : IC u) (e : u1 = si u 47 v) (hX : v.toInt = X) (h1 : 0 ≤ X) (h2 : X ≤ 40) : IC u1 := by
  refine h.pi e (fun q hq hk => ?_) (by decide) (by decide)
  subst hX
  simp only [ICb, List.mem_cons, List.not_mem_nil, or_false] at hq
  rcases hq with rfl | rfl | rfl | rfl | rfl | rfl | rfl | rfl | rfl | rfl | rfl | rfl | rfl | rfl | rfl | rfl | rfl | rfl | rfl | rfl | rfl | rfl | rfl | rfl | rfl | rfl | rfl <;> first | exact ⟨h1, h2⟩ | (exfalso; revert hk; decide)
theorem IC.s48 {u u1 : St} {v : Int32} {X : Int} (h : IC u) (e : u1 = si u 48 v) (hX : v.toInt = X) (h1 : 0 ≤ X) (h2 : X ≤ 7) : IC u1 := by
  refine h.pi e (fun q hq hk => ?_) (by decide) (by decide)
  subst hX
  simp only [ICb, List.mem_cons, List.not_mem_nil, or_false] at hq
  rcases hq with rfl | rfl | rfl | rfl | rfl | rfl | rfl | rfl | rfl | rfl | rfl | rfl | rfl | rfl | rfl | rfl | rfl | rfl | rfl | rfl | rfl | rfl | rfl | rfl | rfl | rfl | rfl <;> first | exact ⟨h1, h2⟩ | (exfalso; revert hk; decide)
theorem IC.s49 {u u1 : St} {v : Int32} {X : Int} (h : IC u) (e : u1 = si u 49 v) (hX : v.toInt = X) (h1 : 0 ≤ X) (h2 : X ≤ 6) : IC u1 := by
  refine h.pi e (fun q hq hk => ?_) (by decide) (by decide)
  subst hX
  simp only [ICb, List.mem_cons, List.not_mem_nil, or_false] at hq
  rcases hq with rfl | rfl | rfl | rfl | rfl | rfl | rfl | rfl | rfl | rfl | rfl | rfl | rfl | rfl | rfl | rfl | rfl | rfl | rfl | rfl | rfl | rfl | rfl | rfl | rfl | rfl | rfl <;> first | exact ⟨h1, h2⟩ | (exfalso; revert hk; decide)
theorem IC.s50 {u u1 : St} {v : Int32} {X : Int} (h : IC u) (e : u1 = si u 50 v) (hX : v.toInt = X) (h1 : -1 ≤ X) (h2 : X ≤ 60) : IC u1 := by
  refine h.pi e (fun q hq hk => ?_) (by decide) (by decide)
  subst hX
  simp only [ICb, List.mem_cons, List.not_mem_nil, or_false] at hq
  rcases hq with rfl | rfl | rfl | rfl | rfl | rfl | rfl | rfl | rfl | rfl | rfl | rfl | rfl | rfl | rfl | rfl | rfl | rfl | rfl | rfl | rfl | rfl | rfl | rfl | rfl | rfl | rfl <;> first | exact ⟨h1, h2⟩ | (exfalso; revert hk; decide)
theorem IC.s52 {u u1 : St} {v : Int32} {X : Int} (h : IC u) (e : u1 = si u 52 v) (hX : v.toInt = X) (h1 : -1 ≤ X) (h2 : X ≤ 60) : IC u1 := by
  refine h.pi e (fun q hq hk => ?_) (by decide) (by decide)
  subst hX
  simp only [ICb, List.mem_cons, List.not_mem_nil, or_false] at hq
  rcases hq with rfl | rfl | rfl | rfl | rfl | rfl | rfl | rfl | rfl | rfl | rfl | rfl | rfl | rfl | rfl | rfl | rfl | rfl | rfl | rfl | rfl | rfl | rfl | rfl | rfl | rfl | rfl <;> first | exact ⟨h1, h2⟩ | (exfalso; revert hk; decide)
theorem IC.s54 {u u1 : St} {v : Int32} {X : Int} (h : IC u) (e : u1 = si u 54 v) (hX : v.toInt = X) (h1 : -1 ≤ X) (h2 : X ≤ 60) : IC u1 := by
  refine h.pi e (fun q hq hk => ?_) (by decide) (by decide)
  subst hX
  simp only [ICb, List.mem_cons, List.not_mem_nil, or_false] at hq
  rcases hq with rfl | rfl | rfl | rfl | rfl | rfl | rfl | rfl | rfl | rfl | rfl | rfl | rfl | rfl | rfl | rfl | rfl | rfl | rfl | rfl | rfl | rfl | rfl | rfl | rfl | rfl | rfl <;> first | exact ⟨h1, h2⟩ | (exfalso; revert hk; decide)
theorem IC.s56 {u u1 : St} {v : Int32} {X : Int} (h : IC u) (e : u1 = si u 56 v) (hX : v.toInt = X) (h1 : -1 ≤ X) (h2 : X ≤ 60) : IC u1 := by
  refine h.pi e (fun q hq hk => ?_) (by decide) (by decide)
  subst hX
  simp only [ICb, List.mem_cons, List.not_mem_nil, or_false] at hq
  rcases hq with rfl | rfl | rfl | rfl | rfl | rfl | rfl | rfl | rfl | rfl | rfl | rfl | rfl | rfl | rfl | rfl | rfl | rfl | rfl | rfl | rfl | rfl | rfl | rfl | rfl | rfl | rfl <;> first | exact ⟨h1, h2⟩ | (exfalso; revert hk; decide)
theorem IC.s61 {u u1 : St} {v : Int32} {X : Int} (h : IC u) (e : u1 = si u 61 v) (hX : v.toInt = X) (h1 : 0 ≤ X) (h2 : X ≤ 7) : IC u1 := by
  refine h.pi e (fun q hq hk => ?_) (by decide) (by decide)
  subst hX
  simp only [ICb, List.mem_cons, List.not_mem_nil, or_false] at hq
  rcases hq with rfl | rfl | rfl | rfl | rfl | rfl | rfl | rfl | rfl | rfl | rfl | rfl | rfl | rfl | rfl | rfl | rfl | rfl | rfl | rfl | rfl | rfl | rfl | rfl | rfl | rfl | rfl <;> first | exact ⟨h1, h2⟩ | (exfalso; revert hk; decide)
theorem IC.s62 {u u1 : St} {v : Int32} {X : Int} (h : IC u) (e : u1 = si u 62 v) (hX : v.toInt = X) (h1 : 0 ≤ X) (h2 : X ≤ 6) : IC u1 := by
  refine h.pi e (fun q hq hk => ?_) (by decide) (by decide)
  subst hX
  simp only [ICb, List.mem_cons, List.not_mem_nil, or_false] at hq
  rcases hq with rfl | rfl | rfl | rfl | rfl | rfl | rfl | rfl | rfl | rfl | rfl | rfl | rfl | rfl | rfl | rfl | rfl | rfl | rfl | rfl | rfl | rfl | rfl | rfl | rfl | rfl | rfl <;> first | exact ⟨h1, h2⟩ | (exfalso; revert hk; decide)
theorem IC.s67 {u u1 : St} {v : Int32} {X : Int} (h : IC u) (e : u1 = si u 67 v) (hX : v.toInt = X) (h1 : 0 ≤ X) (h2 : X ≤ 6) : IC u1 := by
  refine h.pi e (fun q hq hk => ?_) (by decide) (by decide)
  subst hX
  simp only [ICb, List.mem_cons, List.not_mem_nil, or_false] at hq
  rcases hq with rfl | rfl | rfl | rfl | rfl | rfl | rfl | rfl | rfl | rfl | rfl | rfl | rfl | rfl | rfl | rfl | rfl | rfl | rfl | rfl | rfl | rfl | rfl | rfl | rfl | rfl | rfl <;> first | exact ⟨h1, h2⟩ | (exfalso; revert hk; decide)
theorem IC.s76 {u u1 : St} {v : Int32} {X : Int} (h : IC u) (e : u1 = si u 76 v) (hX : v.toInt = X) (h1 : 0 ≤ X) (h2 : X ≤ 30) : IC u1 := by
  refine h.pi e (fun q hq hk => ?_) (by decide) (by decide)
  subst hX
  simp only [ICb, List.mem_cons, List.not_mem_nil, or_false] at hq
  rcases hq with rfl | rfl | rfl | rfl | rfl | rfl | rfl | rfl | rfl | rfl | rfl | rfl | rfl | rfl | rfl | rfl | rfl | rfl | rfl | rfl | rfl | rfl | rfl | rfl | rfl | rfl | rfl <;> first | exact ⟨h1, h2⟩ | (exfalso; revert hk; decide)
theorem IC.fault {u u1 : St} {v : Int32} (h : IC u) (e : u1 = si u 2 v) (hv : v = 0 → 0 ≤ (gi u 17).toInt ∧ (gi u 17).toInt ≤ 7) : IC u1 := by
  refine ⟨fun q hq => ?_, fun q hq j => ?_, ?_⟩
  · rw [gi_ne e (show q.1 ≠ 2 by intro hk; simp only [ICb, List.mem_cons, List.not_mem_nil, or_false] at hq; rcases hq with rfl | rfl | rfl | rfl | rfl | rfl | rfl | rfl | rfl | rfl | rfl | rfl | rfl | rfl | rfl | rfl | rfl | rfl | rfl | rfl | rfl | rfl | rfl | rfl | rfl | rfl | rfl <;> revert hk <;> decide)]; exact h.1 q hq
  · rw [ga_si e]; exact h.2.1 q hq j
  · rw [gi_si e, gi_ne e (by decide)]; exact hv
theorem IC.ddays {u u1 : St} {v : Int32} (h : IC u) (e : u1 = si u 17 v) (hv : gi u 2 = 0 → 0 ≤ v.toInt ∧ v.toInt ≤ 7) : IC u1 := by
  refine ⟨fun q hq => ?_, fun q hq j => ?_, ?_⟩
  · rw [gi_ne e (show q.1 ≠ 17 by intro hk; simp only [ICb, List.mem_cons, List.not_mem_nil, or_false] at hq; rcases hq with rfl | rfl | rfl | rfl | rfl | rfl | rfl | rfl | rfl | rfl | rfl | rfl | rfl | rfl | rfl | rfl | rfl | rfl | rfl | rfl | rfl | rfl | rfl | rfl | rfl | rfl | rfl <;> revert hk <;> decide)]; exact h.1 q hq
  · rw [ga_si e]; exact h.2.1 q hq j
  · rw [gi_si e, gi_ne e (by decide)]; exact hv
theorem IC.pa0 {u u1 : St} {k : Nat} {f : Nat → Int32} (h : IC u) (e : u1 = sa u k f) (h0 : 50 ≠ k) : IC u1 := by
  refine ⟨fun q hq => ?_, fun q hq j => ?_, ?_⟩
  · rw [gi_sa e]; exact h.1 q hq
  · rw [ga_ne e (show q.1 ≠ k by simp only [ICa, List.mem_cons, List.not_mem_nil, or_false] at hq; rcases hq with rfl <;> assumption)]; exact h.2.1 q hq j
  · rw [gi_sa e, gi_sa e]; exact h.2.2
theorem IC.pa50 {u u1 : St} {i : Nat} {v : Int32} {X : Int} (h : IC u) (e : u1 = sa u 50 (upd (ga u 50) i v)) (hX : v.toInt = X) (h1 : 0 ≤ X) (h2 : X ≤ 6) : IC u1 := by
  subst hX
  refine ⟨fun q hq => ?_, fun q hq j => ?_, ?_⟩
  · rw [gi_sa e]; exact h.1 q hq
  · by_cases hk : q.1 = 50
    · simp only [ICa, List.mem_cons, List.not_mem_nil, or_false] at hq
      rcases hq with rfl <;> first | (exfalso; revert hk; decide) | skip
      rw [ga_sa e]
      by_cases hj : j = i
      · rw [hj, pk_us]; exact ⟨h1, h2⟩
      · rw [pk_un hj]; exact h.a50 j
    · rw [ga_ne e hk]; exact h.2.1 q hq j
  · rw [gi_sa e, gi_sa e]; exact h.2.2
theorem IC.pl_ {u u1 : St} {k : Nat} {v : Int64} (h : IC u) (e : u1 = sl u k v) : IC u1 := by subst e; exact h
theorem IC.pb_ {u u1 : St} {k : Nat} {f : Nat → Int64} (h : IC u) (e : u1 = sb u k f) : IC u1 := by subst e; exact h
