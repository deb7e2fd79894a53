/-! methods by hand: sizeOf, common -/
def pcN (n : Nat) : Nat := n % 2 + n / 2 % 2 + n / 4 % 2 + n / 8 % 2 + n / 16 % 2 + n / 32 % 2
theorem pcN_le (n : Nat) : pcN n ≤ 6 := by unfold pcN; omega
theorem clr_lt {v : Int32} (h : ¬ v = 0) : (v &&& (v - 1)).toBitVec.toNat < v.toBitVec.toNat := by
  have h0 : v.toBitVec.toNat ≠ 0 := fun q => h (Int32.toBitVec_inj.mp (BitVec.eq_of_toNat_eq (by rw [q]; rfl)))
  have h1 : (v - 1).toBitVec.toNat = v.toBitVec.toNat - 1 := by
    rw [Int32.toBitVec_sub, BitVec.toNat_sub]
    have hl := v.toBitVec.isLt
    have : (1 : Int32).toBitVec.toNat = 1 := rfl
    rw [this]
    omega
  rw [Int32.toBitVec_and, BitVec.toNat_and]
  have := Nat.and_le_right (n := v.toBitVec.toNat) (m := (v - 1).toBitVec.toNat)
  omega
theorem clr_tab : ∀ j, j < 64 → j ≠ 0 → nI j &&& (nI j - 1) = nI (j &&& (j - 1)) ∧ j &&& (j - 1) < 64 ∧ pcN (j &&& (j - 1)) + 1 = pcN j := by decide +kernel
theorem pc_bd {r : Int32} {n : Nat} (h : r = nI (pcN n)) : 0 ≤ r.toInt ∧ r.toInt ≤ 6 := by
  have := pcN_le n
  rw [h, nI_toInt (by omega)]
  omega
set_option maxHeartbeats 4000000 in
theorem kX10_sizeOf_0 (l : Launch) (D : va_G) (C : Nat → ClassId) (A : Nat → Nat) (u : St) (hI : IM u) (a0 : Int32) (A0 : Int) (ha0 : a0.toInt = A0) : Met l yX10_sizeOf (uc yX10_sizeOf cX10_sizeOf 3 (some .int)) (rmL 1 0 0) (va_Pc [.int a0] (PreR D (tyl C) (mw C A u))) (vp_Si (fun r => 0 ≤ A0 → A0 ≤ 63 → r = nI (pcN A0.toNat))) 0 0 (fun _ => False) := by
  refine mS (by decide) (Nat.le_of_ble_eq_true rfl) ?_
  intro p e s m below meth c ls ar Q hx hb hml hown hts hK hP hl hret
  have hl : lv_has ls 3 [(0, .int a0)] := hl
  refine lv_iconst (v := 0) hx hb dX10_sizeOf_0 (by decide) ?_
  refine lv_istore_n (lv' := [(1, .int 0), (0, .int a0)]) hx hb dX10_sizeOf_1 rfl hl (by decide) rfl (fun ls hl => ?_)
  refine lv_iload_n hx hb dX10_sizeOf_2 rfl (lv_at hl 1 rfl) ?_
  refine lv_istore_n (lv' := [(2, .int a0), (1, .int 0), (0, .int a0)]) hx hb dX10_sizeOf_3 rfl hl (by decide) rfl (fun ls hl => ?_)
  have lp : ∀ (N : Nat) (ls : Array Slot) (v n : Int32), v.toBitVec.toNat < N → (0 ≤ A0 → A0 ≤ 63 → ∃ j k : Nat, j < 64 ∧ v = nI j ∧ n = nI k ∧ k + pcN j = pcN A0.toNat) → lv_has ls 3 [(2, .int v), (1, .int n), (0, .int a0)] → W p l e (rmL 1 0 0) s m ar below meth c s.heap [] 0 0 Q (F0 m 4 ls []) := by
    intro N
    induction N with
    | zero => intro ls v n h; omega
    | succ N ih =>
      intro ls v n hN hinv hl
      refine lv_iload_n hx hb dX10_sizeOf_4 rfl (lv_at hl 0 rfl) ?_
      refine lv_if_eq (tgt := 20) hx hb dX10_sizeOf_5 (by decide) (fun h0 => ?_) (fun h0 => ?_)
      · refine lv_iload_n hx hb dX10_sizeOf_20 rfl (lv_at hl 1 rfl) ?_
        refine hret _ _ _ dX10_sizeOf_21 rfl (fun g1 g2 => ?_)
        obtain ⟨j, k, hj, e1, e2, e3⟩ := hinv g1 g2
        have hj0 : j = 0 := by
          have q : nI j = nI 0 := by rw [← e1, h0]; rfl
          exact (nI_eq (by omega) (by omega)).mp q
        rw [e2, ← e3, hj0]
        rfl
      · refine lv_iinc (v := n + 1) (lv' := [(1, .int (n + 1)), (2, .int v), (0, .int a0)]) hx hb dX10_sizeOf_8 hl (k := 1) rfl rfl (by decide) rfl (fun ls hl => ?_)
        refine lv_iload_n hx hb dX10_sizeOf_11 rfl (lv_at hl 1 rfl) ?_
        refine lv_iload_n hx hb dX10_sizeOf_12 rfl (lv_at hl 1 rfl) ?_
        refine lv_iconst (v := 1) hx hb dX10_sizeOf_13 (by decide) ?_
        refine lv_isub hx hb dX10_sizeOf_14 ?_
        refine lv_iand hx hb dX10_sizeOf_15 ?_
        refine lv_istore_n (lv' := [(2, .int (v &&& (v - 1))), (1, .int (n + 1)), (0, .int a0)]) hx hb dX10_sizeOf_16 rfl hl (by decide) rfl (fun ls hl => ?_)
        refine lv_goto (tgt := 4) hx hb dX10_sizeOf_17 (by decide) ?_
        refine ih ls _ _ (by have := clr_lt h0; omega) (fun g1 g2 => ?_) hl
        obtain ⟨j, k, hj, e1, e2, e3⟩ := hinv g1 g2
        have hj0 : j ≠ 0 := fun q => h0 (by rw [e1, q]; rfl)
        obtain ⟨t1, t2, t3⟩ := clr_tab j hj hj0
        exact ⟨_, k + 1, t2, by rw [e1]; exact t1, by rw [e2, nI_1], by omega⟩
  exact lp _ ls a0 0 (Nat.lt_succ_self _) (fun g1 g2 => ⟨A0.toNat, 0, by omega, i_of ha0 (by omega) (by omega), rfl, by omega⟩) hl
theorem tmod32 {x y : Int32} (h : ¬ y = 0) : (x - x / y * y).toInt = x.toInt.tmod y.toInt := by
  have hy : y.toInt ≠ 0 := fun q => h (i_lit (y := 0) q (by decide))
  have h1 : (x - x / y * y).toInt = (x.toInt - (x.toInt.tdiv y.toInt) * y.toInt).bmod (2 ^ 32) := by
    simp only [Int32.toInt_sub, Int32.toInt_mul, Int32.toInt_div, Int.sub_bmod_bmod, Int.bmod_mul_bmod]
  rw [h1, Int.mul_comm, ← Int.tmod_def]
  have h2 := Int.natAbs_tmod x.toInt y.toInt
  have h3 := Nat.mod_lt x.toInt.natAbs (show 0 < y.toInt.natAbs by omega)
  have h4 := y.toInt_lt
  have h5 := y.le_toInt
  exact i_bm (by omega) (by omega)
section COM
variable {l : Launch} {D : va_G} {C : Nat → ClassId} {A : Nat → Nat} {u : St}
abbrev MetC (l : Launch) (D : va_G) (C : Nat → ClassId) (A : Nat → Nat) (u : St) (h : Nat) (a b : Int32) : Prop := Met l yX10_common (uc yX10_common cX10_common 2 (some .int)) (rmL h 0 0) (va_Pc [.int a, .int b] (PreR D (tyl C) (mw C A u))) (vp_Si (fun r => ¬ r = 0)) 0 0 (fun _ => False)
set_option maxHeartbeats 4000000 in
theorem com_0 (h : Nat) {a : Int32} (ha : ¬ a = 0) : MetC l D C A u h a 0 := by
  refine mS (by decide) (Nat.le_of_ble_eq_true rfl) ?_
  intro p e s m below meth c ls ar Q hx hb hml hown hts hK hP hl hret
  have hl : lv_has ls 2 [(0, .int a), (1, .int 0)] := hl
  refine lv_iload_n hx hb dX10_common_0 rfl (lv_at hl 1 rfl) ?_
  refine lv_if_ne (tgt := 8) hx hb dX10_common_1 (by decide) (fun h0 => absurd rfl h0) (fun _ => ?_)
  refine lv_iload_n hx hb dX10_common_4 rfl (lv_at hl 0 rfl) ?_
  refine lv_goto (tgt := 15) hx hb dX10_common_5 (by decide) ?_
  exact hret _ _ _ dX10_common_15 rfl ha
set_option maxHeartbeats 4000000 in
theorem com_s {h : Nat} {a b : Int32} (hb0 : ¬ b = 0) (hM : MetC l D C A u h b (a - a / b * b)) : MetC l D C A u (h + 1) a b := by
  refine mS (by decide) (Nat.le_of_ble_eq_true rfl) ?_
  intro p e s m below meth c ls ar Q hx hb hml hown hts hK hP hl hret
  have hown : s.vm.findClass RX10 = some m.cls := hown
  have hl : lv_has ls 2 [(0, .int a), (1, .int b)] := hl
  refine lv_iload_n hx hb dX10_common_0 rfl (lv_at hl 1 rfl) ?_
  refine lv_if_ne (tgt := 8) hx hb dX10_common_1 (by decide) (fun _ => ?_) (fun h0 => absurd h0 hb0)
  refine lv_iload_n hx hb dX10_common_8 rfl (lv_at hl 1 rfl) ?_
  refine lv_iload_n hx hb dX10_common_9 rfl (lv_at hl 0 rfl) ?_
  refine lv_iload_n hx hb dX10_common_10 rfl (lv_at hl 1 rfl) ?_
  refine lv_irem hx hb dX10_common_11 hb0 ?_
  refine csS (n := 2) (As := [.int b, .int (a - a / b * b)]) (rest := []) ⟨hx, hb, hml, hown, hts⟩ uc_in hM q_m1667 q_s1668 q_i11 q_c1669 hvX10_common ⟨Nat.le_refl _, ?_⟩ ⟨Nat.le_refl _, Nat.le_refl _⟩ hK hP rfl hl.1 rfl (Nat.le_of_ble_eq_true rfl) dX10_common_12 (fun r hr => ?_)
  · show 8 + (2 + 11) + 60 * h ≤ 60 * (h + 1)
    omega
  · exact hret _ _ r dX10_common_15 rfl hr
theorem com_k : ∀ (k : Nat) (a b : Int32), b.toInt.natAbs < 2 ^ k → ¬ (a = 0 ∧ b = 0) → MetC l D C A u (2 * k + 1) a b := by
  intro k
  induction k with
  | zero =>
    intro a b hb h
    have e : b = 0 := i_lit (X := 0) (by simp at hb; omega) (by decide)
    subst e
    exact com_0 _ (fun q => h ⟨q, rfl⟩)
  | succ k ih =>
    intro a b hb h
    by_cases hb0 : b = 0
    · subst hb0
      exact com_0 _ (fun q => h ⟨q, rfl⟩)
    · have t1 := tmod32 (x := a) hb0
      have g1 := Int.natAbs_tmod a.toInt b.toInt
      rw [← t1] at g1
      have hbp : 0 < b.toInt.natAbs := by
        have : b.toInt ≠ 0 := fun q => hb0 (i_lit (y := 0) q (by decide))
        omega
      have g2 := Nat.mod_lt a.toInt.natAbs hbp
      by_cases hr0 : a - a / b * b = 0
      · have hM : MetC l D C A u (2 * k + 2) b (a - a / b * b) := by rw [hr0]; exact com_0 _ hb0
        exact com_s hb0 hM
      · obtain ⟨r1, hr1⟩ : ∃ r1, r1 = a - a / b * b := ⟨_, rfl⟩
        rw [← hr1] at t1 g1 hr0
        have t2 := tmod32 (x := b) hr0
        have g3 := Int.natAbs_tmod b.toInt r1.toInt
        rw [← t2] at g3
        have hrp : 0 < r1.toInt.natAbs := by
          have : r1.toInt ≠ 0 := fun q => hr0 (i_lit (y := 0) q (by decide))
          omega
        have g4 := Nat.mod_lt b.toInt.natAbs hrp
        have g5 : b.toInt.natAbs = r1.toInt.natAbs * (b.toInt.natAbs / r1.toInt.natAbs) + b.toInt.natAbs % r1.toInt.natAbs := (Nat.div_add_mod _ _).symm
        have g6 : 1 ≤ b.toInt.natAbs / r1.toInt.natAbs := (Nat.one_le_div_iff hrp).mpr (by omega)
        have g7 : r1.toInt.natAbs ≤ r1.toInt.natAbs * (b.toInt.natAbs / r1.toInt.natAbs) := Nat.le_mul_of_pos_right _ g6
        have hp : (2 : Nat) ^ (k + 1) = 2 * 2 ^ k := by rw [Nat.pow_succ]; omega
        have ih1 := ih r1 (b - b / r1 * r1) (by omega) (fun q => hr0 q.1)
        exact com_s hb0 (by rw [← hr1]; exact com_s hr0 ih1)
theorem kX10_common_0 (l : Launch) (D : va_G) (C : Nat → ClassId) (A : Nat → Nat) (u : St) (hI : IM u) (a0 : Int32) (A0 : Int) (ha0 : a0.toInt = A0) (a1 : Int32) (A1 : Int) (ha1 : a1.toInt = A1) (hp : A1 ≠ 0) : MetC l D C A u 65 a0 a1 := by
  have h4 := a1.toInt_lt
  have h5 := a1.le_toInt
  exact com_k 32 a0 a1 (by omega) (fun q => hp (by rw [← ha1, q.2]; rfl))
end COM
/-! bits -/
def bitI (x c : Int32) : Prop := (x >>> (c &&& 31)) &&& 1 = 1
set_option maxHeartbeats 4000000 in
theorem kX10_isBit_0 (l : Launch) (D : va_G) (C : Nat → ClassId) (A : Nat → Nat) (u : St) (hI : IM u) (a0 : Int32) (A0 : Int) (ha0 : a0.toInt = A0) (a1 : Int32) (A1 : Int) (ha1 : a1.toInt = A1) : Met l yX10_isBit (uc yX10_isBit cX10_isBit 2 (some .boolean)) (rmL 1 0 0) (va_Pc [.int a0, .int a1] (PreR D (tyl C) (mw C A u))) (vp_Si (fun r => (r = 1 ∧ bitI a0 a1) ∨ (r = 0 ∧ ¬ bitI a0 a1))) 0 0 (fun _ => False) := by
  refine mS (by decide) (Nat.le_of_ble_eq_true rfl) ?_
  intro p e s m below meth c ls ar Q hx hb hml hown hts hK hP hl hret
  have hl : lv_has ls 2 [(0, .int a0), (1, .int a1)] := hl
  refine lv_iload_n hx hb dX10_isBit_0 rfl (lv_at hl 0 rfl) ?_
  refine lv_iload_n hx hb dX10_isBit_1 rfl (lv_at hl 1 rfl) ?_
  refine lv_ishr hx hb dX10_isBit_2 ?_
  refine lv_iconst (v := 1) hx hb dX10_isBit_3 (by decide) ?_
  refine lv_iand hx hb dX10_isBit_4 ?_
  refine lv_iconst (v := 1) hx hb dX10_isBit_5 (by decide) ?_
  refine lv_icmp_ne (tgt := 13) hx hb dX10_isBit_6 (by decide) (fun h0 => ?_) (fun h0 => ?_)
  · refine lv_iconst (v := 0) hx hb dX10_isBit_13 (by decide) ?_
    exact hret _ _ (0 : Int32) dX10_isBit_14 rfl (Or.inr ⟨rfl, h0⟩)
  · refine lv_iconst (v := 1) hx hb dX10_isBit_9 (by decide) ?_
    refine lv_goto (tgt := 14) hx hb dX10_isBit_10 (by decide) ?_
    exact hret _ _ (1 : Int32) dX10_isBit_14 rfl (Or.inl ⟨rfl, h0⟩)
/-- at most k of the six bits are set -/
def PCk (x : Int32) (k : Nat) : Prop := ∃ j : Nat, j < 64 ∧ x = nI j ∧ pcN j ≤ k
theorem PC_of {x : Int32} {X : Int} (hx : x.toInt = X) (h1 : 0 ≤ X) (h2 : X ≤ 63) : PCk x 6 := ⟨X.toNat, by omega, i_of hx (by omega) (by omega), pcN_le _⟩
theorem PC_bd {x : Int32} {k : Nat} (h : PCk x k) : 0 ≤ x.toInt ∧ x.toInt ≤ 63 := by
  obtain ⟨j, hj, rfl, -⟩ := h
  rw [nI_toInt (by omega)]
  omega
theorem PC_tab : ∀ j, j < 64 → ∀ c, c < 6 → (nI j >>> (nI c &&& 31)) &&& 1 = 1 → nI j &&& ((1 <<< (nI c &&& 31)) ^^^ (-1)) = nI (j - 2 ^ c) ∧ pcN (j - 2 ^ c) + 1 = pcN j := by decide +kernel
theorem PC_step {x c : Int32} {X : Int} {k : Nat} (hc : c.toInt = X) (h1 : 0 ≤ X) (h2 : X ≤ 5) (hb : bitI x c) (h : PCk x (k + 1)) : PCk (x &&& ((1 <<< (c &&& 31)) ^^^ (-1))) k := by
  obtain ⟨j, hj, rfl, hp⟩ := h
  have e : c = nI X.toNat := i_of hc (by omega) (by omega)
  subst e
  obtain ⟨t1, t2⟩ := PC_tab j hj X.toNat (by omega) hb
  exact ⟨_, Nat.lt_of_le_of_lt (Nat.sub_le _ _) hj, t1, by omega⟩
theorem PC_no {x c : Int32} {X : Int} (hc : c.toInt = X) (h1 : 0 ≤ X) (h2 : X ≤ 5) (hb : bitI x c) (h : PCk x 0) : False := by
  obtain ⟨j, hj, rfl, hp⟩ := h
  have e : c = nI X.toNat := i_of hc (by omega) (by omega)
  subst e
  obtain ⟨t1, t2⟩ := PC_tab j hj X.toNat (by omega) hb
  omega
/-! the bits that count, and the last one of some -/
theorem tt_shl1b {y : Int32} {Y : Int} (hy : y.toInt = Y) (h1 : 0 ≤ Y) (h2 : Y ≤ 5) : 1 ≤ ((1 : Int32) <<< (y &&& 31)).toInt ∧ ((1 : Int32) <<< (y &&& 31)).toInt ≤ 32 ∧ (Y ≤ 0 → ((1 : Int32) <<< (y &&& 31)).toInt ≤ 1) ∧ (Y ≤ 1 → ((1 : Int32) <<< (y &&& 31)).toInt ≤ 2) ∧ (Y ≤ 2 → ((1 : Int32) <<< (y &&& 31)).toInt ≤ 4) ∧ (Y ≤ 3 → ((1 : Int32) <<< (y &&& 31)).toInt ≤ 8) ∧ (Y ≤ 4 → ((1 : Int32) <<< (y &&& 31)).toInt ≤ 16) := by
  obtain ⟨q, hq⟩ : ∃ q, q = ((1 : Int32) <<< (y &&& 31)).toInt := ⟨_, rfl⟩
  rw [← hq]
  rcases (show Y = 0 ∨ Y = 1 ∨ Y = 2 ∨ Y = 3 ∨ Y = 4 ∨ Y = 5 by omega) with h | h | h | h | h | h <;> subst h
  · have e : y = 0 := i_lit hy (by decide)
    have e2 : q = 1 := by rw [hq, e]; decide
    omega
  · have e : y = 1 := i_lit hy (by decide)
    have e2 : q = 2 := by rw [hq, e]; decide
    omega
  · have e : y = 2 := i_lit hy (by decide)
    have e2 : q = 4 := by rw [hq, e]; decide
    omega
  · have e : y = 3 := i_lit hy (by decide)
    have e2 : q = 8 := by rw [hq, e]; decide
    omega
  · have e : y = 4 := i_lit hy (by decide)
    have e2 : q = 16 := by rw [hq, e]; decide
    omega
  · have e : y = 5 := i_lit hy (by decide)
    have e2 : q = 32 := by rw [hq, e]; decide
    omega
theorem tt_orb {x y : Int32} {X Y : Int} (hx : x.toInt = X) (hy : y.toInt = Y) (h1 : 0 ≤ X) (h2 : X ≤ 63) (h3 : 0 ≤ Y) (h4 : Y ≤ 63) : 0 ≤ (x ||| y).toInt ∧ (x ||| y).toInt ≤ 63 ∧ (X ≤ 0 → Y ≤ 0 → (x ||| y).toInt ≤ 0) ∧ (X ≤ 1 → Y ≤ 1 → (x ||| y).toInt ≤ 1) ∧ (X ≤ 3 → Y ≤ 3 → (x ||| y).toInt ≤ 3) ∧ (X ≤ 7 → Y ≤ 7 → (x ||| y).toInt ≤ 7) ∧ (X ≤ 15 → Y ≤ 15 → (x ||| y).toInt ≤ 15) ∧ (X ≤ 31 → Y ≤ 31 → (x ||| y).toInt ≤ 31) := by
  have g6 := tt_or hx hy 6 (by decide) h1 (by omega) h3 (by omega)
  refine ⟨g6.1, by omega, fun a b => ?_, fun a b => ?_, fun a b => ?_, fun a b => ?_, fun a b => ?_, fun a b => ?_⟩
  · have g := tt_or hx hy 0 (by decide) h1 (by omega) h3 (by omega)
    omega
  · have g := tt_or hx hy 1 (by decide) h1 (by omega) h3 (by omega)
    omega
  · have g := tt_or hx hy 2 (by decide) h1 (by omega) h3 (by omega)
    omega
  · have g := tt_or hx hy 3 (by decide) h1 (by omega) h3 (by omega)
    omega
  · have g := tt_or hx hy 4 (by decide) h1 (by omega) h3 (by omega)
    omega
  · have g := tt_or hx hy 5 (by decide) h1 (by omega) h3 (by omega)
    omega
def CN (X K : Int) : Prop := (K ≤ 0 → X ≤ 0) ∧ (K ≤ 1 → X ≤ 1) ∧ (K ≤ 2 → X ≤ 3) ∧ (K ≤ 3 → X ≤ 7) ∧ (K ≤ 4 → X ≤ 15) ∧ (K ≤ 5 → X ≤ 31)
theorem CN.mk {X K : Int} (h : (K ≤ 0 → X ≤ 0) ∧ (K ≤ 1 → X ≤ 1) ∧ (K ≤ 2 → X ≤ 3) ∧ (K ≤ 3 → X ≤ 7) ∧ (K ≤ 4 → X ≤ 15) ∧ (K ≤ 5 → X ≤ 31)) : CN X K := h
theorem CN.sp {X K : Int} (h : CN X K) : (K ≤ 0 → X ≤ 0) ∧ (K ≤ 1 → X ≤ 1) ∧ (K ≤ 2 → X ≤ 3) ∧ (K ≤ 3 → X ≤ 7) ∧ (K ≤ 4 → X ≤ 15) ∧ (K ≤ 5 → X ≤ 31) := h
theorem CN.or {x c : Int32} {X C : Int} (hx : x.toInt = X) (hc : c.toInt = C) (h0 : 0 ≤ X) (h1 : X ≤ 63) (h2 : 0 ≤ C) (h3 : C ≤ 5) (h : CN X C) : CN (x ||| ((1 : Int32) <<< (c &&& 31))).toInt (C + 1) := by
  obtain ⟨a0, a1, a2, a3, a4, a5⟩ := h.sp
  obtain ⟨s0, s1, t0, t1, t2, t3, t4⟩ := tt_shl1b hc h2 h3
  obtain ⟨o0, o1, p0, p1, p2, p3, p4, p5⟩ := tt_orb hx (rfl : ((1 : Int32) <<< (c &&& 31)).toInt = _) h0 h1 (by omega) (by omega)
  exact CN.mk ⟨fun q => absurd q (by omega), fun q => p1 (a1 (by omega)) (t0 (by omega)), fun q => p2 (a2 (by omega)) (Int.le_trans (t1 (by omega)) (by decide)), fun q => p3 (a3 (by omega)) (Int.le_trans (t2 (by omega)) (by decide)), fun q => p4 (a4 (by omega)) (Int.le_trans (t3 (by omega)) (by decide)), fun q => p5 (a5 (by omega)) (Int.le_trans (t4 (by omega)) (by decide))⟩
theorem CN.or0 {x : Int32} {X C : Int} (hx : x.toInt = X) (h2 : 0 ≤ C) (h : CN X C) : CN (x ||| (0 : Int32)).toInt (C + 1) := by
  obtain ⟨a0, a1, a2, a3, a4, a5⟩ := h.sp
  have e : x ||| (0 : Int32) = x := Int32.toBitVec_inj.mp (by rw [Int32.toBitVec_or]; exact BitVec.or_zero)
  rw [e, hx]
  exact CN.mk ⟨fun q => absurd q (by omega), fun q => a1 (by omega), fun q => a2 (by omega), fun q => a3 (by omega), fun q => a4 (by omega), fun q => a5 (by omega)⟩
theorem CN.mono {X C K : Int} (h : CN X C) (e : C ≤ K) : CN X K := by
  obtain ⟨a0, a1, a2, a3, a4, a5⟩ := h.sp
  exact CN.mk ⟨fun q => a0 (by omega), fun q => a1 (by omega), fun q => a2 (by omega), fun q => a3 (by omega), fun q => a4 (by omega), fun q => a5 (by omega)⟩
theorem CN.z : CN (0 : Int32).toInt (0 : Int32).toInt := CN.mk (by decide)
/-- one is found, or none of the first C is among x -/
def NB (x : Int32) (B C : Int) : Prop := 0 ≤ B ∨ ∀ k : Nat, (k : Int) < C → k < 6 → ¬ bitI x (nI k)
theorem NB.add {x c : Int32} {B C : Int} (h : NB x B C) (hc : c.toInt = C) (h0 : 0 ≤ C) (f : ¬ bitI x c) : NB x B (C + 1) := by
  rcases h with h | h
  · exact Or.inl h
  · refine Or.inr (fun k hk h6 hb => ?_)
    by_cases hl : (k : Int) < C
    · exact h k hl h6 hb
    · have e : c = nI k := i_of hc (by omega) (by omega)
      exact f (by rw [e]; exact hb)
theorem NB.mono {x : Int32} {B C K : Int} (h : NB x B C) (e : K ≤ C) : NB x B K := by
  rcases h with h | h
  · exact Or.inl h
  · exact Or.inr (fun k hk => h k (by omega))
/-- one of the clocks is among x -/
def HB (v : St) (x : Int32) : Prop := ∃ k : Nat, (k : Int) < (ga v 7 3).toInt ∧ k < 6 ∧ bitI x (nI k)
theorem NB.pos {v : St} {x : Int32} {B : Int} (h : NB x B (ga v 7 3).toInt) (g : HB v x) : 0 ≤ B := by
  rcases h with h | h
  · exact h
  · obtain ⟨k, h1, h2, h3⟩ := g
    exact (h k h1 h2 h3).elim
theorem HB.un {L M N : List (Nat × Nat)} {v v' : St} {x : Int32} (h : HB v x) (hU : Un L M N v v') (h1 : out M 7 = true) : HB v' x := by
  obtain ⟨k, h2, h3, h4⟩ := h
  exact ⟨k, by rw [hU.2.1 _ h1]; exact h2, h3, h4⟩
theorem HB_tab : ∀ j, j < 64 → j ≠ 0 → ∀ K, K < 7 → j < 2 ^ K → (List.range 6).any (fun k => decide (k < K) && decide ((nI j >>> (nI k &&& 31)) &&& 1 = 1)) = true := by decide +kernel
theorem HB.mk {v : St} {x : Int32} (h : CN x.toInt (ga v 7 3).toInt) (h0 : 0 ≤ x.toInt) (h1 : x.toInt ≤ 63) (hK : (ga v 7 3).toInt ≤ 6) (hn : x.toInt ≠ 0) : HB v x := by
  obtain ⟨a0, a1, a2, a3, a4, a5⟩ := h.sp
  obtain ⟨K, e⟩ : ∃ K, K = (ga v 7 3).toInt := ⟨_, rfl⟩
  unfold HB
  rw [← e] at a0 a1 a2 a3 a4 a5 hK ⊢
  have hx : x = nI x.toInt.toNat := i_of rfl (by omega) (by omega)
  have hj : x.toInt.toNat < 2 ^ K.toNat := by
    rcases (show K.toNat = 0 ∨ K.toNat = 1 ∨ K.toNat = 2 ∨ K.toNat = 3 ∨ K.toNat = 4 ∨ K.toNat = 5 ∨ K.toNat = 6 by omega) with q | q | q | q | q | q | q <;> rw [q]
    · have := a0 (by omega)
      omega
    · have := a1 (by omega)
      omega
    · have := a2 (by omega)
      omega
    · have := a3 (by omega)
      omega
    · have := a4 (by omega)
      omega
    · have := a5 (by omega)
      omega
    · omega
  have t := HB_tab x.toInt.toNat (by omega) (by omega) K.toNat (by omega) hj
  obtain ⟨k, k1, k2⟩ := List.any_eq_true.mp t
  rw [Bool.and_eq_true, decide_eq_true_eq, decide_eq_true_eq] at k2
  have k3 := List.mem_range.mp k1
  refine ⟨k, by omega, k3, ?_⟩
  rw [hx]
  exact k2.2
def RowTo (v : St) (S I : Int) : Prop := ∀ j : Nat, j % 2 = 0 → (j : Int) < I → 0 ≤ (gb v 3 (60 * S.toNat + j)).toInt ∧ (gb v 3 (60 * S.toNat + j)).toInt ≤ 6
def RowOK (v : St) (a : Int32) (S : Int) : Prop := RowTo v S (ga v 2 (Int32.toNatClampNeg a)).toInt
theorem RowTo.at {v : St} {S I X J : Int} {z : Int32} (h : RowTo v S I) (hz : z.toInt = X) (e : X = 60 * S + J) (h0 : 0 ≤ S) (h1 : 0 ≤ J) (h2 : J % 2 = 0) (h3 : J < I) : 0 ≤ (gb v 3 (Int32.toNatClampNeg z)).toInt ∧ (gb v 3 (Int32.toNatClampNeg z)).toInt ≤ 6 := by
  have hc := i_cl hz (by omega)
  have hj := h J.toNat (by omega) (by omega)
  have e2 : Int32.toNatClampNeg z = 60 * S.toNat + J.toNat := by omega
  rw [e2]
  exact hj
theorem RowTo.add {v : St} {S I X : Int} {z : Int32} (h : RowTo v S I) (hz : z.toInt = X) (e : X = 60 * S + I) (h0 : 0 ≤ S) (h1 : 0 ≤ I) (h2 : I % 2 = 0) (g1 : 0 ≤ (gb v 3 (Int32.toNatClampNeg z)).toInt) (g2 : (gb v 3 (Int32.toNatClampNeg z)).toInt ≤ 6) : RowTo v S (I + 2) := by
  intro j hj hl
  by_cases hI : (j : Int) < I
  · exact h j hj hI
  · have hc := i_cl hz (by omega)
    have e2 : Int32.toNatClampNeg z = 60 * S.toNat + j := by omega
    rw [← e2]
    exact ⟨g1, g2⟩
theorem RowOK.un {L M N : List (Nat × Nat)} {v v' : St} {a : Int32} {S : Int} (h : RowOK v a S) (hU : Un L M N v v') (h1 : out M 2 = true) (h2 : out N 3 = true) : RowOK v' a S := by
  intro j hj hl
  rw [hU.2.1 _ h1] at hl
  rw [hU.2.2 _ h2]
  exact h j hj hl

