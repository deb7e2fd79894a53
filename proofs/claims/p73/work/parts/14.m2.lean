/-! middle(): one of the clocks that count has each rank (ranks are all different, and below how many there are) -/
theorem mx_ex (r : Nat → Nat → Bool) (tot : ∀ a b, a ≠ b → r a b = true ∨ r b a = true) (tr : ∀ a b c, r a b = true → r b c = true → r a c = true) : ∀ L : List Nat, L ≠ [] → ∃ m ∈ L, ∀ q ∈ L, q ≠ m → r q m = true := by
  intro L
  induction L with
  | nil => intro h; exact (h rfl).elim
  | cons a L ih =>
    intro _
    by_cases hL : L = []
    · subst hL
      refine ⟨a, List.mem_cons_self, fun q hq hn => ?_⟩
      rcases List.mem_cons.mp hq with h | h
      · exact (hn h).elim
      · cases h
    · obtain ⟨m, hm, h⟩ := ih hL
      by_cases e : a = m
      · refine ⟨m, List.mem_cons_of_mem _ hm, fun q hq hn => ?_⟩
        rcases List.mem_cons.mp hq with g | g
        · exact (hn (g.trans e)).elim
        · exact h q g hn
      · rcases tot a m e with g | g
        · refine ⟨m, List.mem_cons_of_mem _ hm, fun q hq hn => ?_⟩
          rcases List.mem_cons.mp hq with k | k
          · rw [k]; exact g
          · exact h q k hn
        · refine ⟨a, List.mem_cons_self, fun q hq hn => ?_⟩
          rcases List.mem_cons.mp hq with k | k
          · exact (hn k).elim
          · by_cases e2 : q = m
            · rw [e2]; exact g
            · exact tr q m a (h q k e2) g
theorem rk_ex (r : Nat → Nat → Bool) (tot : ∀ a b, a ≠ b → r a b = true ∨ r b a = true) (tr : ∀ a b c, r a b = true → r b c = true → r a c = true) (irr : ∀ a, r a a = false) : ∀ (n : Nat) (L : List Nat), L.length = n → L.Nodup → ∀ i, i < n → ∃ c ∈ L, L.countP (fun q => r q c) = i := by
  intro n
  induction n with
  | zero => intro L _ _ i hi; omega
  | succ n ih =>
    intro L hL hN i hi
    obtain ⟨m, hm, hx⟩ := mx_ex r tot tr L (fun e => by rw [e] at hL; cases hL)
    have hp : ∀ p : Nat → Bool, L.countP p = (m :: L.erase m).countP p := fun p => List.Perm.countP_eq p (List.perm_cons_erase hm)
    have hl : (L.erase m).length = n := by rw [List.length_erase_of_mem hm, hL]; rfl
    by_cases e : i = n
    · refine ⟨m, hm, ?_⟩
      have h9 : (m :: L.erase m).countP (fun q => r q m) = (L.erase m).countP (fun q => r q m) := List.countP_cons_of_neg (by show ¬ r m m = true; rw [irr]; decide)
      rw [hp, h9, e, ← hl]
      refine List.countP_eq_length.mpr (fun a ha => ?_)
      have := (List.Nodup.mem_erase_iff hN).mp ha
      exact hx a this.2 this.1
    · obtain ⟨c, hc, h⟩ := ih (L.erase m) hl (hN.erase m) i (by omega)
      have hc2 := (List.Nodup.mem_erase_iff hN).mp hc
      refine ⟨c, hc2.2, ?_⟩
      have hcm := hx c hc2.2 hc2.1
      have hmc : ¬ r m c = true := fun g => by
        have := tr c m c hcm g
        rw [irr] at this
        cases this
      have h9 : (m :: L.erase m).countP (fun q => r q c) = (L.erase m).countP (fun q => r q c) := List.countP_cons_of_neg hmc
      rw [hp, h9]
      exact h
def bt (x : Int32) (q : Nat) : Bool := decide ((x >>> (nI q &&& 31)) &&& 1 = 1)
def ltr (v : St) (D q c : Nat) : Bool := decide ((ga v 12 (6 * D + q)).toInt < (ga v 12 (6 * D + c)).toInt ∨ ((ga v 12 (6 * D + q)).toInt = (ga v 12 (6 * D + c)).toInt ∧ q < c))
def ahd (v : St) (D : Nat) (x : Int32) (c n : Nat) : Nat := (List.range n).countP (fun q => ltr v D q c && bt x q)
theorem ahd_ex {v : St} {D : Nat} {x : Int32} {K i : Nat} (h : i < ((List.range K).filter (bt x)).length) : ∃ c, c < K ∧ bt x c = true ∧ ahd v D x c K = i := by
  obtain ⟨c, hc, he⟩ := rk_ex (ltr v D)
    (fun a b hn => by simp only [ltr, decide_eq_true_eq]; omega)
    (fun a b c h1 h2 => by simp only [ltr, decide_eq_true_eq] at h1 h2 ⊢; omega)
    (fun a => by simp only [ltr, decide_eq_false_iff_not]; omega) _ ((List.range K).filter (bt x)) rfl (List.Pairwise.filter _ (by first | exact List.nodup_range | exact List.nodup_range _)) i h
  have hm := List.mem_filter.mp hc
  refine ⟨c, List.mem_range.mp hm.1, hm.2, ?_⟩
  rw [← he, List.countP_filter]
  rfl
theorem ahd_s {v : St} {D c n : Nat} {x : Int32} : ahd v D x c (n + 1) = ahd v D x c n + (if (ltr v D n c && bt x n) = true then 1 else 0) := by
  unfold ahd
  rw [List.range_succ, List.countP_append, List.countP_cons, List.countP_nil, Nat.zero_add]
theorem sz_tab : ∀ j, j < 64 → ∀ K, K < 7 → j < 2 ^ K → ((List.range K).filter (bt (nI j))).length = pcN j := by decide +kernel
/-- the bits of those that count -/
def cntF (v : St) (D : Nat) : Nat → Int32
  | 0 => 0
  | n + 1 => cntF v D n ||| (if (ga v 13 (6 * D + n)).toInt = 0 then (0 : Int32) else (1 : Int32) <<< (nI n &&& 31))
theorem cnt_0 {v : St} {x z : Int32} {D C Z : Int} (h : x = cntF v D.toNat C.toNat) (hz : z.toInt = Z) (e : Z = 6 * D + C) (h0 : 0 ≤ D) (h1 : 0 ≤ C) (g : (ga v 13 (Int32.toNatClampNeg z)).toInt = 0) : x ||| 0 = cntF v D.toNat (C + 1).toNat := by
  have hc := i_cl hz (by omega)
  have e1 : (C + 1).toNat = C.toNat + 1 := by omega
  have e2 : Int32.toNatClampNeg z = 6 * D.toNat + C.toNat := by omega
  rw [e2] at g
  rw [e1, cntF, if_pos g, h]
theorem cnt_1 {v : St} {x z c : Int32} {D C Z : Int} (h : x = cntF v D.toNat C.toNat) (hz : z.toInt = Z) (e : Z = 6 * D + C) (h0 : 0 ≤ D) (hc1 : c.toInt = C) (h1 : 0 ≤ C) (g : (ga v 13 (Int32.toNatClampNeg z)).toInt ≠ 0) : x ||| ((1 : Int32) <<< (c &&& 31)) = cntF v D.toNat (C + 1).toNat := by
  have hc := i_cl hz (by omega)
  have hr := i_rng hc1
  have e1 : (C + 1).toNat = C.toNat + 1 := by omega
  have e2 : Int32.toNatClampNeg z = 6 * D.toNat + C.toNat := by omega
  have e3 : c = nI C.toNat := i_of hc1 (by omega) (by omega)
  rw [e2] at g
  rw [e1, cntF, if_neg g, h, e3]
theorem bt_t {x c : Int32} {C : Int} (hc : c.toInt = C) (h0 : 0 ≤ C) (h : bitI x c) : bt x C.toNat = true := by
  have hr := i_rng hc
  have e3 : c = nI C.toNat := i_of hc (by omega) (by omega)
  rw [e3] at h
  exact decide_eq_true h
theorem bt_f {x c : Int32} {C : Int} (hc : c.toInt = C) (h0 : 0 ≤ C) (h : ¬ bitI x c) : bt x C.toNat = false := by
  have hr := i_rng hc
  have e3 : c = nI C.toNat := i_of hc (by omega) (by omega)
  rw [e3] at h
  exact decide_eq_false h
theorem ltr_e {v : St} {D Q C Z Y : Int} {z y : Int32} (hz : z.toInt = Z) (hy : y.toInt = Y) (e1 : Z = 6 * D + Q) (e2 : Y = 6 * D + C) (h0 : 0 ≤ D) (h1 : 0 ≤ Q) (h2 : 0 ≤ C) : ltr v D.toNat Q.toNat C.toNat = decide ((ga v 12 (Int32.toNatClampNeg z)).toInt < (ga v 12 (Int32.toNatClampNeg y)).toInt ∨ ((ga v 12 (Int32.toNatClampNeg z)).toInt = (ga v 12 (Int32.toNatClampNeg y)).toInt ∧ Q < C)) := by
  have c1 := i_cl hz (by omega)
  have c2 := i_cl hy (by omega)
  have e3 : Int32.toNatClampNeg z = 6 * D.toNat + Q.toNat := by omega
  have e4 : Int32.toNatClampNeg y = 6 * D.toNat + C.toNat := by omega
  rw [e3, e4]
  unfold ltr
  exact decide_eq_decide.mpr (by omega)
theorem ahd_0 {v : St} {x : Int32} {D Q C I : Int} (h : I = (ahd v D.toNat x C.toNat Q.toNat : Int)) (h0 : 0 ≤ Q) (g : (ltr v D.toNat Q.toNat C.toNat && bt x Q.toNat) = false) : I = (ahd v D.toNat x C.toNat (Q + 1).toNat : Int) := by
  have e1 : (Q + 1).toNat = Q.toNat + 1 := by omega
  subst h
  rw [e1, ahd_s, g]
  simp
theorem ahd_1 {v : St} {x : Int32} {D Q C I : Int} (h : I = (ahd v D.toNat x C.toNat Q.toNat : Int)) (h0 : 0 ≤ Q) (g : (ltr v D.toNat Q.toNat C.toNat && bt x Q.toNat) = true) : I + 1 = (ahd v D.toNat x C.toNat (Q + 1).toNat : Int) := by
  have e1 : (Q + 1).toNat = Q.toNat + 1 := by omega
  subst h
  rw [e1, ahd_s, g]
  simp
/-- none of the first C has rank I -/
def OR (v : St) (D K : Int) (x : Int32) (I C : Int) : Prop := ∀ k : Nat, (k : Int) < C → bt x k = true → ((ahd v D.toNat x k K.toNat : Nat) : Int) ≠ I
theorem OR.z {v : St} {D K I : Int} {x : Int32} : OR v D K x I (0 : Int32).toInt := by
  intro k hk
  have h0 : (0 : Int32).toInt = 0 := by decide
  omega
theorem OR.f {v : St} {D K I C : Int} {x : Int32} (h : OR v D K x I C) (h0 : 0 ≤ C) (g : bt x C.toNat = false) : OR v D K x I (C + 1) := by
  intro k hk hb
  by_cases hl : (k : Int) < C
  · exact h k hl hb
  · have e : k = C.toNat := by omega
    rw [e, g] at hb
    cases hb
theorem OR.n {v : St} {D K I C : Int} {x : Int32} (h : OR v D K x I C) (h0 : 0 ≤ C) (g : ((ahd v D.toNat x C.toNat K.toNat : Nat) : Int) ≠ I) : OR v D K x I (C + 1) := by
  intro k hk hb
  by_cases hl : (k : Int) < C
  · exact h k hl hb
  · have e : k = C.toNat := by omega
    rw [e]
    exact g
/-- so one is found -/
theorem ord_pos {v : St} {D K I R : Int} {x : Int32} (h : 0 ≤ R ∨ OR v D K x I K) (hc : CN x.toInt K) (h0 : 0 ≤ x.toInt) (h1 : x.toInt ≤ 63) (hK : K ≤ 6) (g0 : 0 ≤ I) (g1 : I < pcN x.toInt.toNat) : 0 ≤ R := by
  rcases h with h | h
  · exact h
  · exfalso
    obtain ⟨a0, a1, a2, a3, a4, a5⟩ := hc.sp
    have hx : x = nI x.toInt.toNat := i_of rfl (by omega) (by omega)
    have hj : x.toInt.toNat < 2 ^ K.toNat := by
      rcases (show K.toNat = 0 ∨ K.toNat = 1 ∨ K.toNat = 2 ∨ K.toNat = 3 ∨ K.toNat = 4 ∨ K.toNat = 5 ∨ K.toNat = 6 by omega) with q | q | q | q | q | q | q <;> rw [q]
      · have := a0 (by omega)
        omega
      · have := a1 (by omega)
        omega
      · have := a2 (by omega)
        omega
      · have := a3 (by omega)
        omega
      · have := a4 (by omega)
        omega
      · have := a5 (by omega)
        omega
      · omega
    have hs := sz_tab x.toInt.toNat (by omega) K.toNat (by omega) hj
    rw [← hx] at hs
    obtain ⟨c, h2, h3, h4⟩ := ahd_ex (v := v) (D := D.toNat) (x := x) (K := K.toNat) (i := I.toNat) (by omega)
    exact h c (by omega) h3 (by omega)
