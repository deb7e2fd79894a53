/-! the system's state as numbers, and what a call leaves alone -/
abbrev St : Type := (Nat → Int32) × (Nat → Nat → Int32) × (Nat → Int64) × (Nat → Nat → Int64)
def gi (u : St) (k : Nat) : Int32 := u.1 k
def ga (u : St) (k : Nat) : Nat → Int32 := u.2.1 k
def gl (u : St) (k : Nat) : Int64 := u.2.2.1 k
def gb (u : St) (k : Nat) : Nat → Int64 := u.2.2.2 k
def si (u : St) (k : Nat) (v : Int32) : St := (va_up u.1 k v, u.2)
def sa (u : St) (k : Nat) (f : Nat → Int32) : St := (u.1, va_up u.2.1 k f, u.2.2)
def sl (u : St) (k : Nat) (v : Int64) : St := (u.1, u.2.1, va_up u.2.2.1 k v, u.2.2.2)
def sb (u : St) (k : Nat) (f : Nat → Int64) : St := (u.1, u.2.1, u.2.2.1, va_up u.2.2.2 k f)
theorem up_eq {α : Type} {f : Nat → α} {k : Nat} {v : α} : va_up f k v k = v := if_pos rfl
theorem up_ne {α : Type} {f : Nat → α} {k j : Nat} {v : α} (h : j ≠ k) : va_up f k v j = f j := if_neg h
theorem gi_si {u u1 : St} {k : Nat} {v : Int32} (e : u1 = si u k v) : gi u1 k = v := by subst e; exact up_eq
theorem gi_ne {u u1 : St} {k j : Nat} {v : Int32} (e : u1 = si u k v) (h : j ≠ k) : gi u1 j = gi u j := by subst e; exact up_ne h
theorem gi_sa {u u1 : St} {k j : Nat} {f : Nat → Int32} (e : u1 = sa u k f) : gi u1 j = gi u j := by subst e; rfl
theorem gi_sl {u u1 : St} {k j : Nat} {v : Int64} (e : u1 = sl u k v) : gi u1 j = gi u j := by subst e; rfl
theorem gi_sb {u u1 : St} {k j : Nat} {f : Nat → Int64} (e : u1 = sb u k f) : gi u1 j = gi u j := by subst e; rfl
theorem ga_si {u u1 : St} {k j : Nat} {v : Int32} (e : u1 = si u k v) : ga u1 j = ga u j := by subst e; rfl
theorem ga_sa {u u1 : St} {k : Nat} {f : Nat → Int32} (e : u1 = sa u k f) : ga u1 k = f := by subst e; exact up_eq
theorem ga_ne {u u1 : St} {k j : Nat} {f : Nat → Int32} (e : u1 = sa u k f) (h : j ≠ k) : ga u1 j = ga u j := by subst e; exact up_ne h
theorem ga_sl {u u1 : St} {k j : Nat} {v : Int64} (e : u1 = sl u k v) : ga u1 j = ga u j := by subst e; rfl
theorem ga_sb {u u1 : St} {k j : Nat} {f : Nat → Int64} (e : u1 = sb u k f) : ga u1 j = ga u j := by subst e; rfl
theorem gb_si {u u1 : St} {k j : Nat} {v : Int32} (e : u1 = si u k v) : gb u1 j = gb u j := by subst e; rfl
theorem gb_sa {u u1 : St} {k j : Nat} {f : Nat → Int32} (e : u1 = sa u k f) : gb u1 j = gb u j := by subst e; rfl
theorem gb_sl {u u1 : St} {k j : Nat} {v : Int64} (e : u1 = sl u k v) : gb u1 j = gb u j := by subst e; rfl
theorem gb_ne {u u1 : St} {k j : Nat} {f : Nat → Int64} (e : u1 = sb u k f) (h : j ≠ k) : gb u1 j = gb u j := by subst e; exact up_ne h
/-- an element of an array behind a store into it -/
theorem ga_el {u u1 : St} {k i : Nat} {v : Int32} (e : u1 = sa u k (upd (ga u k) i v)) : ga u1 k i = v := by rw [ga_sa e]; exact pk_us
/-- outside of some places -/
def out : List (Nat × Nat) → Nat → Bool
  | [], _ => true
  | p :: L, k => (decide (k < p.1) || decide (p.2 < k)) && out L k
def subL (L' L : List (Nat × Nat)) : Bool := L'.all (fun p => L.any (fun q => decide (q.1 ≤ p.1) && decide (p.2 ≤ q.2)))
theorem out_all {L : List (Nat × Nat)} {k : Nat} (h : out L k = true) : ∀ q ∈ L, k < q.1 ∨ q.2 < k := by
  induction L with
  | nil => intro q hq; cases hq
  | cons p L ih =>
    simp only [out, Bool.and_eq_true, Bool.or_eq_true, decide_eq_true_eq] at h
    intro q hq
    rcases List.mem_cons.mp hq with rfl | hq
    · exact h.1
    · exact ih h.2 q hq
theorem out_of {L : List (Nat × Nat)} {k : Nat} (h : ∀ q ∈ L, k < q.1 ∨ q.2 < k) : out L k = true := by
  induction L with
  | nil => rfl
  | cons p L ih =>
    simp only [out, Bool.and_eq_true, Bool.or_eq_true, decide_eq_true_eq]
    exact ⟨h p List.mem_cons_self, ih (fun q hq => h q (List.mem_cons_of_mem _ hq))⟩
theorem out_mem {L : List (Nat × Nat)} {k lo hi : Nat} (h : (lo, hi) ∈ L) (h1 : lo ≤ k) (h2 : k ≤ hi) : out L k = false := by
  cases hc : out L k with
  | false => rfl
  | true =>
    have := out_all hc _ h
    simp only at this
    omega
theorem out_sub {L' L : List (Nat × Nat)} (h : subL L' L = true) {k : Nat} (hk : out L k = true) : out L' k = true := by
  refine out_of (fun p hp => ?_)
  have h1 := List.all_eq_true.mp h p hp
  obtain ⟨q, hq, h2⟩ := List.any_eq_true.mp h1
  simp only [Bool.and_eq_true, decide_eq_true_eq] at h2
  have := out_all hk q hq
  omega
/-- but for these places (numbers, rows, rows of longs) the state is as it was -/
def Un (L M N : List (Nat × Nat)) (u u' : St) : Prop := (∀ k, out L k = true → gi u' k = gi u k) ∧ (∀ k, out M k = true → ga u' k = ga u k) ∧ (∀ k, out N k = true → gb u' k = gb u k)
section UN
variable {L M N L' M' N' : List (Nat × Nat)} {u u1 u2 : St} {k : Nat}
theorem Un.rf : Un L M N u u := ⟨fun _ _ => rfl, fun _ _ => rfl, fun _ _ => rfl⟩
theorem out_ne {j : Nat} (hk : out L k = false) (hj : out L j = true) : j ≠ k := fun e => by rw [e, hk] at hj; cases hj
theorem Un.si {v : Int32} (h : Un L M N u u1) (hk : out L k = false) (e : u2 = si u1 k v) : Un L M N u u2 :=
  ⟨fun j hj => (gi_ne e (out_ne hk hj)).trans (h.1 j hj), fun j hj => (ga_si e).trans (h.2.1 j hj), fun j hj => (gb_si e).trans (h.2.2 j hj)⟩
theorem Un.sa {f : Nat → Int32} (h : Un L M N u u1) (hk : out M k = false) (e : u2 = sa u1 k f) : Un L M N u u2 :=
  ⟨fun j hj => (gi_sa e).trans (h.1 j hj), fun j hj => (ga_ne e (out_ne hk hj)).trans (h.2.1 j hj), fun j hj => (gb_sa e).trans (h.2.2 j hj)⟩
theorem Un.sl {v : Int64} (h : Un L M N u u1) (e : u2 = sl u1 k v) : Un L M N u u2 :=
  ⟨fun j hj => (gi_sl e).trans (h.1 j hj), fun j hj => (ga_sl e).trans (h.2.1 j hj), fun j hj => (gb_sl e).trans (h.2.2 j hj)⟩
theorem Un.sb {f : Nat → Int64} (h : Un L M N u u1) (hk : out N k = false) (e : u2 = sb u1 k f) : Un L M N u u2 :=
  ⟨fun j hj => (gi_sb e).trans (h.1 j hj), fun j hj => (ga_sb e).trans (h.2.1 j hj), fun j hj => (gb_ne e (out_ne hk hj)).trans (h.2.2 j hj)⟩
theorem Un.tr (h : Un L M N u u1) (h2 : Un L' M' N' u1 u2) (s1 : subL L' L = true) (s2 : subL M' M = true) (s3 : subL N' N = true) : Un L M N u u2 :=
  ⟨fun j hj => (h2.1 j (out_sub s1 hj)).trans (h.1 j hj), fun j hj => (h2.2.1 j (out_sub s2 hj)).trans (h.2.1 j hj), fun j hj => (h2.2.2 j (out_sub s3 hj)).trans (h.2.2 j hj)⟩
end UN
/-! the numbers -/
theorem i_bm {X : Int} (h1 : -2147483648 ≤ X) (h2 : X ≤ 2147483647) : X.bmod (2 ^ 32) = X := by
  rw [Int.bmod_def]
  simp only [show ((2 ^ 32 : Nat) : Int) = 4294967296 from rfl, show ((4294967296 : Int) + 1) / 2 = 2147483648 from rfl]
  split <;> omega
theorem tt_add {x y : Int32} {X Y : Int} (hx : x.toInt = X) (hy : y.toInt = Y) (h1 : -2147483648 ≤ X + Y) (h2 : X + Y ≤ 2147483647) : (x + y).toInt = X + Y := by
  rw [Int32.toInt_add, hx, hy]; exact i_bm h1 h2
theorem tt_sub {x y : Int32} {X Y : Int} (hx : x.toInt = X) (hy : y.toInt = Y) (h1 : -2147483648 ≤ X - Y) (h2 : X - Y ≤ 2147483647) : (x - y).toInt = X - Y := by
  rw [Int32.toInt_sub, hx, hy]; exact i_bm h1 h2
theorem tt_mul {x y : Int32} {X Y : Int} (hx : x.toInt = X) (hy : y.toInt = Y) (h1 : -2147483648 ≤ X * Y) (h2 : X * Y ≤ 2147483647) : (x * y).toInt = X * Y := by
  rw [Int32.toInt_mul, hx, hy]; exact i_bm h1 h2
theorem tt_neg {x : Int32} {X : Int} (hx : x.toInt = X) (h1 : -2147483648 ≤ -X) (h2 : -X ≤ 2147483647) : (-x).toInt = -X := by
  rw [Int32.toInt_neg, hx]; exact i_bm h1 h2
theorem cLT {x y : Int32} {X Y : Int} (hx : x.toInt = X) (hy : y.toInt = Y) (h : x < y) : X < Y := by subst hx; subst hy; exact Int32.lt_iff_toInt_lt.mp h
theorem cNLT {x y : Int32} {X Y : Int} (hx : x.toInt = X) (hy : y.toInt = Y) (h : ¬ x < y) : Y ≤ X := by subst hx; subst hy; rw [Int32.lt_iff_toInt_lt] at h; omega
theorem cLE {x y : Int32} {X Y : Int} (hx : x.toInt = X) (hy : y.toInt = Y) (h : x ≤ y) : X ≤ Y := by subst hx; subst hy; exact Int32.le_iff_toInt_le.mp h
theorem cNLE {x y : Int32} {X Y : Int} (hx : x.toInt = X) (hy : y.toInt = Y) (h : ¬ x ≤ y) : Y < X := by subst hx; subst hy; rw [Int32.le_iff_toInt_le] at h; omega
theorem cEQ {x y : Int32} {X Y : Int} (hx : x.toInt = X) (hy : y.toInt = Y) (h : x = y) : X = Y := by subst hx; subst hy; rw [h]
theorem cNE {x y : Int32} {X Y : Int} (hx : x.toInt = X) (hy : y.toInt = Y) (h : ¬ x = y) : X ≠ Y := by subst hx; subst hy; exact fun e => h (Int32.toInt_inj.mp e)
theorem dLT {x y : Int64} {X Y : Int} (hx : x.toInt = X) (hy : y.toInt = Y) (h : lg_cmp x y < 0) : X < Y := by subst hx; subst hy; exact Int64.lt_iff_toInt_lt.mp ((lg_cmp_lt x y).mp h)
theorem dNLT {x y : Int64} {X Y : Int} (hx : x.toInt = X) (hy : y.toInt = Y) (h : ¬ lg_cmp x y < 0) : Y ≤ X := by
  subst hx; subst hy
  have h1 : ¬ x < y := fun q => h ((lg_cmp_lt x y).mpr q)
  rw [Int64.lt_iff_toInt_lt] at h1; omega
theorem dGT {x y : Int64} {X Y : Int} (hx : x.toInt = X) (hy : y.toInt = Y) (h : 0 < lg_cmp x y) : Y < X := by subst hx; subst hy; exact Int64.lt_iff_toInt_lt.mp ((lg_cmp_gt x y).mp h)
theorem dNGT {x y : Int64} {X Y : Int} (hx : x.toInt = X) (hy : y.toInt = Y) (h : ¬ 0 < lg_cmp x y) : X ≤ Y := by
  subst hx; subst hy
  have h1 : ¬ y < x := fun q => h ((lg_cmp_gt x y).mpr q)
  rw [Int64.lt_iff_toInt_lt] at h1; omega
theorem dLE {x y : Int64} {X Y : Int} (hx : x.toInt = X) (hy : y.toInt = Y) (h : lg_cmp x y ≤ 0) : X ≤ Y := by subst hx; subst hy; exact Int64.le_iff_toInt_le.mp ((lg_cmp_le x y).mp h)
theorem dNLE {x y : Int64} {X Y : Int} (hx : x.toInt = X) (hy : y.toInt = Y) (h : ¬ lg_cmp x y ≤ 0) : Y < X := by
  subst hx; subst hy
  have h1 : ¬ x ≤ y := fun q => h ((lg_cmp_le x y).mpr q)
  rw [Int64.le_iff_toInt_le] at h1; omega
theorem dGE {x y : Int64} {X Y : Int} (hx : x.toInt = X) (hy : y.toInt = Y) (h : 0 ≤ lg_cmp x y) : Y ≤ X := by subst hx; subst hy; exact Int64.le_iff_toInt_le.mp ((lg_cmp_ge x y).mp h)
theorem dNGE {x y : Int64} {X Y : Int} (hx : x.toInt = X) (hy : y.toInt = Y) (h : ¬ 0 ≤ lg_cmp x y) : X < Y := by
  subst hx; subst hy
  have h1 : ¬ y ≤ x := fun q => h ((lg_cmp_ge x y).mpr q)
  rw [Int64.le_iff_toInt_le] at h1; omega
theorem i_ix {x : Int32} {X : Int} {n : Nat} (hx : x.toInt = X) (h1 : 0 ≤ X) (h2 : X < n) : vp_in x n := by subst hx; exact vp_in_iff.mpr ⟨h1, h2⟩
theorem i_ne {y : Int32} {Y : Int} (hy : y.toInt = Y) (h : Y ≠ 0) : ¬ y = 0 := fun e => h (by rw [← hy, e]; rfl)
theorem i_cl {x : Int32} {X : Int} (hx : x.toInt = X) (h : 0 ≤ X) : (x.toNatClampNeg : Int) = X := by
  subst hx
  show ((x.toInt.toNat : Nat) : Int) = x.toInt
  omega
theorem i_nn {x : Int32} {X : Int} (hx : x.toInt = X) (h : 0 ≤ X) : ¬ x < 0 := by
  subst hx; rw [Int32.lt_iff_toInt_lt]
  have : (0 : Int32).toInt = 0 := by decide
  omega
theorem i_rng {x : Int32} {X : Int} (hx : x.toInt = X) : -2147483648 ≤ X ∧ X ≤ 2147483647 := by
  subst hx
  have h1 := x.toInt_lt
  have h2 := x.le_toInt
  omega
/-- a number that is between 0 and n is one of them -/
theorem i_of {x : Int32} {X : Int} (hx : x.toInt = X) {k : Nat} (hk : k < 2147483648) (h : X = k) : x = nI k := Int32.toInt_inj.mp (by rw [hx, h, nI_toInt (by omega)])
theorem i_lit {x y : Int32} {X : Int} (hx : x.toInt = X) (hy : y.toInt = X) : x = y := Int32.toInt_inj.mp (hx.trans hy.symm)
theorem n_b {x : Int32} {X : Int} (hx : x.toInt = X) (h1 : 0 ≤ X) (h2 : X ≤ 1) : narrow .boolean (.int x) = .int x := by
  rcases (show X = 0 ∨ X = 1 by omega) with h | h
  · have e : x = 0 := i_lit hx (by rw [h]; decide)
    subst e; rfl
  · have e : x = 1 := i_lit hx (by rw [h]; decide)
    subst e; rfl
theorem tt_andR {x y : Int32} {Y : Int} (hy : y.toInt = Y) (h : 0 ≤ Y) : 0 ≤ (x &&& y).toInt ∧ (x &&& y).toInt ≤ Y := by
  subst hy
  obtain ⟨k, hk, rfl⟩ := nI_of (x := y) (i_nn rfl h)
  have e : x &&& nI k = nI ((x.toBitVec.toNat) &&& k) := by
    apply Int32.toBitVec_inj.mp
    apply BitVec.eq_of_toNat_eq
    rw [Int32.toBitVec_and, BitVec.toNat_and, pk_tn (by omega), pk_tn (by have := Nat.and_le_right (n := x.toBitVec.toNat) (m := k); omega)]
  have h2 : x.toBitVec.toNat &&& k ≤ k := Nat.and_le_right
  rw [e, nI_toInt (by omega), nI_toInt (by omega)]
  omega
theorem tt_or {x y : Int32} {X Y : Int} (hx : x.toInt = X) (hy : y.toInt = Y) (n : Nat) (hn : n ≤ 30) (h1 : 0 ≤ X) (h2 : X < (2 ^ n : Nat)) (h3 : 0 ≤ Y) (h4 : Y < (2 ^ n : Nat)) : 0 ≤ (x ||| y).toInt ∧ (x ||| y).toInt < (2 ^ n : Nat) := by
  subst hx; subst hy
  obtain ⟨j, hj, rfl⟩ := nI_of (x := x) (i_nn rfl h1)
  obtain ⟨k, hk, rfl⟩ := nI_of (x := y) (i_nn rfl h3)
  rw [nI_toInt (by omega)] at h2
  rw [nI_toInt (by omega)] at h4
  have hp : (2 ^ n : Nat) ≤ 2 ^ 30 := Nat.pow_le_pow_right (by omega) hn
  have hlt : j ||| k < 2 ^ n := Nat.or_lt_two_pow (by omega) (by omega)
  have e : nI j ||| nI k = nI (j ||| k) := by
    apply Int32.toBitVec_inj.mp
    apply BitVec.eq_of_toNat_eq
    rw [Int32.toBitVec_or, BitVec.toNat_or, pk_tn (by omega), pk_tn (by omega), pk_tn (by omega)]
  rw [e, nI_toInt (by omega)]
  omega
theorem i_sp7 {x : Int32} {X : Int} (hx : x.toInt = X) (h1 : 0 ≤ X) (h2 : X ≤ 6) : x = 0 ∨ x = 1 ∨ x = 2 ∨ x = 3 ∨ x = 4 ∨ x = 5 ∨ x = 6 := by
  rcases (show X = 0 ∨ X = 1 ∨ X = 2 ∨ X = 3 ∨ X = 4 ∨ X = 5 ∨ X = 6 by omega) with h | h | h | h | h | h | h <;> subst h
  · exact Or.inl (i_lit hx (by decide))
  · exact Or.inr (Or.inl (i_lit hx (by decide)))
  · exact Or.inr (Or.inr (Or.inl (i_lit hx (by decide))))
  · exact Or.inr (Or.inr (Or.inr (Or.inl (i_lit hx (by decide)))))
  · exact Or.inr (Or.inr (Or.inr (Or.inr (Or.inl (i_lit hx (by decide))))))
  · exact Or.inr (Or.inr (Or.inr (Or.inr (Or.inr (Or.inl (i_lit hx (by decide)))))))
  · exact Or.inr (Or.inr (Or.inr (Or.inr (Or.inr (Or.inr (i_lit hx (by decide)))))))
/-- 1 << y -/
theorem tt_shl1 {y : Int32} {Y : Int} (hy : y.toInt = Y) (h1 : 0 ≤ Y) (h2 : Y ≤ 6) : 1 ≤ ((1 : Int32) <<< (y &&& 31)).toInt ∧ ((1 : Int32) <<< (y &&& 31)).toInt ≤ 64 ∧ (Y ≤ 5 → ((1 : Int32) <<< (y &&& 31)).toInt ≤ 32) := by
  rcases i_sp7 hy h1 h2 with rfl | rfl | rfl | rfl | rfl | rfl | rfl
  · exact ⟨by decide, by decide, fun _ => by decide⟩
  · exact ⟨by decide, by decide, fun _ => by decide⟩
  · exact ⟨by decide, by decide, fun _ => by decide⟩
  · exact ⟨by decide, by decide, fun _ => by decide⟩
  · exact ⟨by decide, by decide, fun _ => by decide⟩
  · exact ⟨by decide, by decide, fun _ => by decide⟩
  · refine ⟨by decide, by decide, fun h => ?_⟩
    have : (6 : Int32).toInt = 6 := by decide
    omega
theorem tt_div {x y : Int32} {X : Int} (Y : Nat) (hx : x.toInt = X) (hy : y.toInt = Y) (h : 0 ≤ X) (h0 : 0 < Y) : (x / y).toInt = X / (Y : Int) := by
  subst hx
  obtain ⟨j, hj, rfl⟩ := nI_of (x := x) (i_nn rfl h)
  have hY : Y < 2147483648 := by
    have := y.toInt_lt
    omega
  have e : y = nI Y := i_of hy hY rfl
  rw [e, pk_div (by omega) h0 (by omega), nI_toInt (by have := Nat.div_le_self j Y; omega), nI_toInt (by omega)]
  omega
theorem tt_rem {x y : Int32} {X : Int} (Y : Nat) (hx : x.toInt = X) (hy : y.toInt = Y) (h : 0 ≤ X) (h0 : 0 < Y) : (x - x / y * y).toInt = X % (Y : Int) := by
  subst hx
  obtain ⟨j, hj, rfl⟩ := nI_of (x := x) (i_nn rfl h)
  have hY : Y < 2147483648 := by
    have := y.toInt_lt
    omega
  have e : y = nI Y := i_of hy hY rfl
  rw [e, pk_rem (by omega) h0 (by omega), nI_toInt (by have := Nat.mod_lt j h0; omega), nI_toInt (by omega)]
  omega
theorem tt_l2i {x : Int64} {X : Int} (hx : x.toInt = X) (h1 : -2147483648 ≤ X) (h2 : X ≤ 2147483647) : (x.toInt32).toInt = X := by
  rw [Int64.toInt_toInt32, hx]; exact i_bm h1 h2
theorem tt_i2l {x : Int32} {X : Int} (hx : x.toInt = X) : (x.toInt64).toInt = X := by rw [Int32.toInt_toInt64, hx]
theorem tt_lsub {x y : Int64} {X Y : Int} (hx : x.toInt = X) (hy : y.toInt = Y) (h1 : -4294967296 ≤ X - Y) (h2 : X - Y ≤ 4294967296) : (x - y).toInt = X - Y := by
  rw [Int64.toInt_sub, hx, hy, Int.bmod_def]
  simp only [show ((2 ^ 64 : Nat) : Int) = 18446744073709551616 from rfl, show ((18446744073709551616 : Int) + 1) / 2 = 9223372036854775808 from rfl]
  split <;> omega
theorem tt_ladd {x y : Int64} {X Y : Int} (hx : x.toInt = X) (hy : y.toInt = Y) (h1 : -4294967296 ≤ X + Y) (h2 : X + Y ≤ 4294967296) : (x + y).toInt = X + Y := by
  rw [Int64.toInt_add, hx, hy, Int.bmod_def]
  simp only [show ((2 ^ 64 : Nat) : Int) = 18446744073709551616 from rfl, show ((18446744073709551616 : Int) + 1) / 2 = 9223372036854775808 from rfl]
  split <;> omega
theorem tt_mulB {x y : Int32} {X Y : Int} (a b c : Int) (hx : x.toInt = X) (hy : y.toInt = Y) (h1 : 0 ≤ X) (h2 : X ≤ a) (h3 : 0 ≤ Y) (h4 : Y ≤ b) (hc : a * b = c) (hc2 : c ≤ 10000) : (0 ≤ (x * y).toInt ∧ (x * y).toInt ≤ c) ∧ (X = 0 → (x * y).toInt = 0) ∧ (Y = 0 → (x * y).toInt = 0) := by
  have g1 : X * Y ≤ a * b := Int.mul_le_mul h2 h4 h3 (by omega)
  have g2 : 0 ≤ X * Y := Int.mul_nonneg h1 h3
  rw [tt_mul hx hy (by omega) (by omega)]
  refine ⟨by omega, fun h => ?_, fun h => ?_⟩
  · rw [h, Int.zero_mul]
  · rw [h, Int.mul_zero]
theorem tt_andL {x y : Int32} {X : Int} (hx : x.toInt = X) (h : 0 ≤ X) : 0 ≤ (x &&& y).toInt ∧ (x &&& y).toInt ≤ X := by
  have e : x &&& y = y &&& x := Int32.toBitVec_inj.mp (by rw [Int32.toBitVec_and, Int32.toBitVec_and, BitVec.and_comm])
  rw [e]
  exact tt_andR hx h
theorem tt_max {x y : Int32} : ((if x < y then y else x) = x ∧ y.toInt ≤ x.toInt) ∨ ((if x < y then y else x) = y ∧ x.toInt ≤ y.toInt) := by
  by_cases h : x < y
  · exact Or.inr ⟨if_pos h, by have := Int32.lt_iff_toInt_lt.mp h; omega⟩
  · exact Or.inl ⟨if_neg h, by rw [Int32.lt_iff_toInt_lt] at h; omega⟩
theorem tt_min {x y : Int32} : ((if y < x then y else x) = x ∧ x.toInt ≤ y.toInt) ∨ ((if y < x then y else x) = y ∧ y.toInt ≤ x.toInt) := by
  by_cases h : y < x
  · exact Or.inr ⟨if_pos h, by have := Int32.lt_iff_toInt_lt.mp h; omega⟩
  · exact Or.inl ⟨if_neg h, by rw [Int32.lt_iff_toInt_lt] at h; omega⟩
