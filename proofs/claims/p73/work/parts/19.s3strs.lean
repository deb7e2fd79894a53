def tmS (i : Nat) : Term := .string RX6 (strIx.getD i 0)
theorem fl_ex : ∀ i, i < 14 → Cond.exactly (tmS i) "java/lang/String" ∈ flatC (Jvm.Cond.and given_1 narrow_1) := by decide +kernel
theorem fl_co : ∀ i, i < 14 → Cond.eq (.field (tmS i) "java/lang/String" "coder" "B") (.int 0) ∈ flatC (Jvm.Cond.and given_1 narrow_1) := by decide +kernel
theorem fl_ar : ∀ i, i < 14 → Cond.arrayOf (Term.field (tmS i) "java/lang/String" "value" "[B") .byte ∈ flatC (Jvm.Cond.and given_1 narrow_1) := by decide +kernel
theorem fl_le : ∀ i, i < 14 → Cond.eq (.length (Term.field (tmS i) "java/lang/String" "value" "[B")) (.int (Int32.ofNat (strLen.getD i 0))) ∈ flatC (Jvm.Cond.and given_1 narrow_1) := by decide +kernel
theorem fl_el : ∀ i, i < 14 → ∀ j, j < strLen.getD i 0 → Cond.eq (.elem (Term.field (tmS i) "java/lang/String" "value" "[B") (.int (Int32.ofNat j))) (.int ((strBy.getD i []).getD j 0)) ∈ flatC (Jvm.Cond.and given_1 narrow_1) := by decide +kernel
theorem fl_ne0 : ∀ j, j < 14 → 0 < j → Cond.not (Cond.eq (tmS 0) (tmS j)) ∈ flatC (Jvm.Cond.and given_1 narrow_1) := by decide +kernel
theorem fl_ne1 : ∀ j, j < 14 → 1 < j → Cond.not (Cond.eq (tmS 1) (tmS j)) ∈ flatC (Jvm.Cond.and given_1 narrow_1) := by decide +kernel
theorem fl_ne2 : ∀ j, j < 14 → 2 < j → Cond.not (Cond.eq (tmS 2) (tmS j)) ∈ flatC (Jvm.Cond.and given_1 narrow_1) := by decide +kernel
theorem fl_ne3 : ∀ j, j < 14 → 3 < j → Cond.not (Cond.eq (tmS 3) (tmS j)) ∈ flatC (Jvm.Cond.and given_1 narrow_1) := by decide +kernel
theorem fl_ne4 : ∀ j, j < 14 → 4 < j → Cond.not (Cond.eq (tmS 4) (tmS j)) ∈ flatC (Jvm.Cond.and given_1 narrow_1) := by decide +kernel
theorem fl_ne5 : ∀ j, j < 14 → 5 < j → Cond.not (Cond.eq (tmS 5) (tmS j)) ∈ flatC (Jvm.Cond.and given_1 narrow_1) := by decide +kernel
theorem fl_ne6 : ∀ j, j < 14 → 6 < j → Cond.not (Cond.eq (tmS 6) (tmS j)) ∈ flatC (Jvm.Cond.and given_1 narrow_1) := by decide +kernel
theorem fl_ne7 : ∀ j, j < 14 → 7 < j → Cond.not (Cond.eq (tmS 7) (tmS j)) ∈ flatC (Jvm.Cond.and given_1 narrow_1) := by decide +kernel
theorem fl_ne8 : ∀ j, j < 14 → 8 < j → Cond.not (Cond.eq (tmS 8) (tmS j)) ∈ flatC (Jvm.Cond.and given_1 narrow_1) := by decide +kernel
theorem fl_ne9 : ∀ j, j < 14 → 9 < j → Cond.not (Cond.eq (tmS 9) (tmS j)) ∈ flatC (Jvm.Cond.and given_1 narrow_1) := by decide +kernel
theorem fl_ne10 : ∀ j, j < 14 → 10 < j → Cond.not (Cond.eq (tmS 10) (tmS j)) ∈ flatC (Jvm.Cond.and given_1 narrow_1) := by decide +kernel
theorem fl_ne11 : ∀ j, j < 14 → 11 < j → Cond.not (Cond.eq (tmS 11) (tmS j)) ∈ flatC (Jvm.Cond.and given_1 narrow_1) := by decide +kernel
theorem fl_ne12 : ∀ j, j < 14 → 12 < j → Cond.not (Cond.eq (tmS 12) (tmS j)) ∈ flatC (Jvm.Cond.and given_1 narrow_1) := by decide +kernel
theorem fl_nl : ∀ i, i < 14 → ∀ j, j < 14 → i < j → Cond.not (Cond.eq (tmS i) (tmS j)) ∈ flatC (Jvm.Cond.and given_1 narrow_1) := by
  intro i hi j hj h
  match i, hi, h with
  | 0, _, h => exact fl_ne0 j hj h
  | 1, _, h => exact fl_ne1 j hj h
  | 2, _, h => exact fl_ne2 j hj h
  | 3, _, h => exact fl_ne3 j hj h
  | 4, _, h => exact fl_ne4 j hj h
  | 5, _, h => exact fl_ne5 j hj h
  | 6, _, h => exact fl_ne6 j hj h
  | 7, _, h => exact fl_ne7 j hj h
  | 8, _, h => exact fl_ne8 j hj h
  | 9, _, h => exact fl_ne9 j hj h
  | 10, _, h => exact fl_ne10 j hj h
  | 11, _, h => exact fl_ne11 j hj h
  | 12, _, h => exact fl_ne12 j hj h
  | k + 13, _, h => exact absurd h (by omega)
theorem fl_ne : ∀ i, i < 14 → ∀ j, j < 14 → i ≠ j → Cond.not (Cond.eq (tmS i) (tmS j)) ∈ flatC (Jvm.Cond.and given_1 narrow_1) ∨ Cond.not (Cond.eq (tmS j) (tmS i)) ∈ flatC (Jvm.Cond.and given_1 narrow_1) := by
  intro i hi j hj h
  by_cases g : i < j
  · exact Or.inl (fl_nl i hi j hj g)
  · exact Or.inr (fl_nl j hj i hi (by omega))
theorem fl_cs : Cond.eq (.static "java/lang/String" "COMPACT_STRINGS" "Z") (.int 1) ∈ flatC (Jvm.Cond.and given_1 narrow_1) := by decide +kernel
theorem fl_sf : Cond.isRef (.static "jdk/internal/util/Preconditions" "SIOOBE_FORMATTER" "Ljava/util/function/BiFunction;") ∈ flatC (Jvm.Cond.and given_1 narrow_1) := by decide +kernel
theorem XS_start {b : Nat} {s : State} (hts : ∀ w ∈ lw_tbl, w.before #[Value.ref b] s = true) (hgv : (Jvm.Cond.and given_1 narrow_1).before #[Value.ref b] s = true) : ∃ adK adV : Nat → Nat, XS adK adV (fun q : Nat => s.heap.size ≤ q) s := by
  have hs := flat_of_before _ hgv
  have hA : ∀ a : Nat, a < s.heap.size → ¬ (fun q : Nat => s.heap.size ≤ q) a := fun a h => Nat.not_le.mpr h
  obtain ⟨adK, adV, hK, hE⟩ := vk_Sof (args := #[Value.ref b]) (s := s) (N := 14) (tm := tmS) (len := strLen) (byt := strBy) (A := (fun q : Nat => s.heap.size ≤ q)) (by decide) (fun i hi => hs _ (fl_ex i hi)) (fun i hi => hs _ (fl_co i hi)) (fun i hi => hs _ (fl_ar i hi)) (fun i hi => hs _ (fl_le i hi)) (fun i hi j hj => hs _ (fl_el i hi j hj)) (fun i j hi hj hij => (fl_ne i hi j hj hij).imp (fun h => hs _ h) (fun h => hs _ h)) hA
  refine ⟨adK, adV, hK, fun i hi => ?_, va_Zof (hts (Cond.laysStatic "java/lang/String" "COMPACT_STRINGS" "Z") (List.mem_of_getElem? (i := 596) (by decide +kernel))) (hts _ (uw_in q_i13)) (va_eqt (hs _ fl_cs)) hA, va_Zqof (hts (Cond.laysStatic "jdk/internal/util/Preconditions" "SIOOBE_FORMATTER" "Ljava/util/function/BiFunction;") (List.mem_of_getElem? (i := 612) (by decide +kernel))) (hts _ (uw_in q_i15)) (hs _ fl_sf) hA⟩
  have h1 : (Cond.stringRef RX6 (strIx.getD i 0) (strTx.getD i "")).before #[Value.ref b] s = true := by
    match i, hi with
    | 0, _ => exact hts (Cond.stringRef RX6 67 "town") (List.mem_of_getElem? (i := 578) (by decide +kernel))
    | 1, _ => exact hts (Cond.stringRef RX6 73 "days") (List.mem_of_getElem? (i := 639) (by decide +kernel))
    | 2, _ => exact hts (Cond.stringRef RX6 81 "home") (List.mem_of_getElem? (i := 644) (by decide +kernel))
    | 3, _ => exact hts (Cond.stringRef RX6 85 "odds") (List.mem_of_getElem? (i := 645) (by decide +kernel))
    | 4, _ => exact hts (Cond.stringRef RX6 49 "clock") (List.mem_of_getElem? (i := 646) (by decide +kernel))
    | 5, _ => exact hts (Cond.stringRef RX6 92 "at") (List.mem_of_getElem? (i := 651) (by decide +kernel))
    | 6, _ => exact hts (Cond.stringRef RX6 101 "late") (List.mem_of_getElem? (i := 652) (by decide +kernel))
    | 7, _ => exact hts (Cond.stringRef RX6 102 "early") (List.mem_of_getElem? (i := 653) (by decide +kernel))
    | 8, _ => exact hts (Cond.stringRef RX6 111 "loses") (List.mem_of_getElem? (i := 658) (by decide +kernel))
    | 9, _ => exact hts (Cond.stringRef RX6 112 "gains") (List.mem_of_getElem? (i := 659) (by decide +kernel))
    | 10, _ => exact hts (Cond.stringRef RX6 114 "rent") (List.mem_of_getElem? (i := 660) (by decide +kernel))
    | 11, _ => exact hts (Cond.stringRef RX6 121 "dead") (List.mem_of_getElem? (i := 661) (by decide +kernel))
    | 12, _ => exact hts (Cond.stringRef RX6 58 "trade") (List.mem_of_getElem? (i := 662) (by decide +kernel))
    | 13, _ => exact hts (Cond.stringRef RX6 125 "waits") (List.mem_of_getElem? (i := 667) (by decide +kernel))
    | k + 14, h => exact absurd h (by omega)
  exact vk_R.of h1 (hE i hi)
