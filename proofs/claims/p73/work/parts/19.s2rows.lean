/-! the law's calls: the callee's world stands first, behind the call last -/
section LR
variable {p : Program} {l : Launch} {e : Env} {R : Room} {s : State} {m : MethodId} {args : Array Value} {below : List Frame} {meth : Method} {c : Code} {H : Heap} {locs : List Loc} {cells slots : Nat} {Q : State → Prop}
variable {cc : ByteArray} {pc nL : Nat} {ls : Array Slot} {rest st0 : List Value} {D : va_G} {A : Nat → Prop} {a : Nat} {tys : List (ClassId × FieldType)} {H0 : Heap} {w : St → va_W} {u : St} {wr : va_W}
variable {Ts : List Cond} {own Cn : String} {index n maxL h : Nat} {y : MethodName} {bytes : ByteArray} {ret : Option FieldType} {As : List Value} {X : (Nat → Prop) → State → Prop}
theorem lcI {post : Int32 → St → Prop} (S : CallFix p m c cc nL s args Ts own) (hT : ∀ w ∈ uw, w ∈ Ts)
    (hM : MetI l y bytes maxL ret h (.ref a :: As) D tys w X u H.size post)
    (q1 : Cond.methodLink own index y ∈ uw) (q2 : Cond.instanceMethod y ∈ uw) (q3 : Cond.selects Cn y y ∈ uw) (q4 : Cond.initialized Cn ∈ uw) (q5 : Cond.code y bytes maxL ret ∈ uw) (hd : HdV y Cn n)
    (hR : h + 1 ≤ R.frames ∧ 8 + (maxL + 11) + 60 * h ≤ R.locals) (hf : cells ≤ R.cells ∧ slots ≤ R.slots)
    (hK : va_K D vwCl tys s) (hP : va_P D vwCl (w u ++ wr) H) (hD : va_D A (w u ++ wr)) (hS : va_S A H0 H locs) (hA : ∀ q, H0.size ≤ q → A q) (hB : Bl X) (hX : ∀ U : State, U.heap = H → s.WarmedH U.vm → X (va_A (w u) H.size) U) (ci q0 : Nat) {T : u_T} {N : Nat} {fs : List Value} (hc : vwCl[ci]? = some (Cn, T, N)) (he : (w u)[q0]? = some (a, .inr (ci, fs)))
    (hn : As.length = n) (hl : ls.size = nL) (hst : st0 = As.reverse ++ .ref a :: rest) (hw : (rest.map fun v => v.category).sum ≤ 8) (hdg : decode cc pc = .ok (.invokevirtual index, 3))
    (kk : ∀ (r : Int32) (u1 : St) (H1 : Heap) (locs1 : List Loc), post r u1 → va_P D vwCl (wr ++ w u1) H1 → va_D A (wr ++ w u1) → va_S A H0 H1 locs1 → W p l e R s m args below meth c H1 locs1 cells slots Q (F0 m (pc + 3) ls (.int r :: rest))) : W p l e R s m args below meth c H locs cells slots Q (F0 m pc ls st0) := by
  have hFc := va_free hD hS hA ((List.range (w u).length).map (0 + ·)) (at_left (w1 := w u) (w2 := wr))
  refine va_calli (va_runV (As := As) (rest := rest) (C := Cn) S hM (cwV n S.2.2.2.2 (uV_good hT q1 q2 q3 q4 q5) rfl rfl rfl hd hR) ⟨blW hB, va_recv hK hP.left hc he, fun U hU hW => ⟨rfl, by rw [hU], by rw [hU]; exact hP.left, va_K.moved hW.alike hK, hD.left.weaken (fun _ _ _ _ => trivial), hX U hU hW⟩⟩ rfl hn hl hst (lv_room hw) hdg hf) hS (fun q _ h => hFc q h) hFc (fun r u1 t H1 locs1 ht hvm hpo hB hz1 hk1 hS1 => ?_)
  obtain ⟨hP1, hD1⟩ := hB
  rw [ht] at hP1
  obtain ⟨hP2, hD2⟩ := va_join hP hD ((List.range (w u).length).map (0 + ·)) ((List.range wr.length).map ((w u).length + ·)) at_left at_right (nd_range _ _) at_dis2 hk1 hFc hP1 hD1
  exact kk r u1 H1 locs1 hpo hP2 hD2 hS1
theorem XS.law {adK adV : Nat → Nat} {w1 w2 : va_W} {A : Nat → Prop} {s U : State} {H : Heap} {locs : List Loc} (hX : XS adK adV A s) (hD : va_D A (w1 ++ w2)) (hS : va_S A s.heap H locs) (hA : ∀ q, s.heap.size ≤ q → A q) (hW : s.WarmedH U.vm) (hU : U.heap = H) : XS adK adV (va_A w1 H.size) U := by
  subst hU
  exact (XSt.mv hW (XSt.kp hX hS.2.1)).nr (fun q hq => by
    rcases hq with ⟨k, e, hk⟩ | hq
    · exact hD.left.2 k (q, e) hk
    · exact hA q (Nat.le_trans hS.1 hq))
end LR
def RLt (u v : St) : Prop := ∀ A s w : Int, SzC u A s w → (s = -1 ∧ (ga v 1 A.toNat).toInt = -1) ∨ (0 ≤ s ∧ s = (ga v 2 A.toNat).toInt ∧ w = (ga v 1 A.toNat).toInt ∧ 0 ≤ w)
theorem RLt.un {u v u1 v1 : St} (h : RLt u v) (e50 : gi u1 50 = gi u 50) (e52 : gi u1 52 = gi u 52) (e54 : gi u1 54 = gi u 54) (e56 : gi u1 56 = gi u 56) (e51 : gi u1 51 = gi u 51) (e53 : gi u1 53 = gi u 53) (e55 : gi u1 55 = gi u 55) (e57 : gi u1 57 = gi u 57) (f1 : ga v1 1 = ga v 1) (f2 : ga v1 2 = ga v 2) : RLt u1 v1 := by
  intro A s w hs
  unfold SzC at hs
  rw [e50, e52, e54, e56, e51, e53, e55, e57] at hs
  rw [f1, f2]
  exact h A s w hs
theorem RLt.at {u v : St} (h : RLt u v) {A s w : Int} {a : Int32} (hs : SzC u A s w) (ha : a.toInt = A) : (s = -1 ∧ (ga v 1 (Int32.toNatClampNeg a)).toInt = -1) ∨ (0 ≤ s ∧ s = (ga v 2 (Int32.toNatClampNeg a)).toInt ∧ w = (ga v 1 (Int32.toNatClampNeg a)).toInt ∧ 0 ≤ w) := by
  subst ha
  exact h _ _ _ hs
theorem row_ok {r : Int32} {A0 A1 A2 : Int} (h : (r = 0 ∧ ((0 ≤ A0 ∧ A0 ≤ 3) ∧ (0 ≤ A1 ∧ A1 ≤ 3) ∧ 0 ≤ A2 ∧ A2 ≤ 60)) ∨ (r = (-3) ∧ ((0 ≤ A0 ∧ A0 ≤ 3) ∧ (0 ≤ A1 ∧ A1 ≤ 3) ∧ A2 < 0)) ∨ (r = (-2) ∧ (¬ (0 ≤ A0 ∧ A0 ≤ 3) ∨ ¬ (0 ≤ A1 ∧ A1 ≤ 3) ∨ 60 < A2))) : r = 0 ↔ ((0 ≤ A0 ∧ A0 ≤ 3) ∧ (0 ≤ A1 ∧ A1 ≤ 3) ∧ 0 ≤ A2 ∧ A2 ≤ 60) := by
  rcases h with ⟨e, f⟩ | ⟨e, f⟩ | ⟨e, f⟩
  · exact ⟨fun _ => f, fun _ => e⟩
  · exact ⟨fun q => absurd (e.symm.trans q) (by decide), fun q => by exfalso; omega⟩
  · exact ⟨fun q => absurd (e.symm.trans q) (by decide), fun q => by exfalso; omega⟩
theorem RLt.row {u v u1 v1 : St} {r r2 a0 a1 a2 : Int32} {A0 A1 A2 : Int} (h : RLt u v) (h0 : a0.toInt = A0) (h1 : a1.toInt = A1) (h2 : a2.toInt = A2) (hc : r = 0 ↔ ((0 ≤ A0 ∧ A0 ≤ 3) ∧ (0 ≤ A1 ∧ A1 ≤ 3) ∧ 0 ≤ A2 ∧ A2 ≤ 60)) (hm : r2 = 0 ↔ ((0 ≤ A0 ∧ A0 ≤ 3) ∧ (0 ≤ A1 ∧ A1 ≤ 3) ∧ 0 ≤ A2 ∧ A2 ≤ 60)) (g0 : (r = 0 ∧ A0 = 0 ∧ gi u1 50 = a2 ∧ gi u1 51 = a1) ∨ ((r ≠ 0 ∨ A0 ≠ 0) ∧ gi u1 50 = gi u 50 ∧ gi u1 51 = gi u 51)) (g1 : (r = 0 ∧ A0 = 1 ∧ gi u1 52 = a2 ∧ gi u1 53 = a1) ∨ ((r ≠ 0 ∨ A0 ≠ 1) ∧ gi u1 52 = gi u 52 ∧ gi u1 53 = gi u 53)) (g2 : (r = 0 ∧ A0 = 2 ∧ gi u1 54 = a2 ∧ gi u1 55 = a1) ∨ ((r ≠ 0 ∨ A0 ≠ 2) ∧ gi u1 54 = gi u 54 ∧ gi u1 55 = gi u 55)) (g3 : (r = 0 ∧ A0 = 3 ∧ gi u1 56 = a2 ∧ gi u1 57 = a1) ∨ ((r ≠ 0 ∨ A0 ≠ 3) ∧ gi u1 56 = gi u 56 ∧ gi u1 57 = gi u 57))
    (q : (r2 = 0 ∧ ga v1 1 = upd (ga v 1) (Int32.toNatClampNeg a0) a1 ∧ ga v1 2 = upd (ga v 2) (Int32.toNatClampNeg a0) a2) ∨ (r2 ≠ 0 ∧ ga v1 1 = ga v 1 ∧ ga v1 2 = ga v 2)) : RLt u1 v1 := by
  intro A s w hs
  rcases hs with ⟨hA, hs, hw⟩ | ⟨hA, hs, hw⟩ | ⟨hA, hs, hw⟩ | ⟨hA, hs, hw⟩
  · rcases g0 with ⟨e, f, p1, p2⟩ | ⟨e, p1, p2⟩
    · have cd := hc.mp e
      rcases q with ⟨_, q1, q2⟩ | ⟨qn, _, _⟩
      · have ec : Int32.toNatClampNeg a0 = 0 := by have q9 := i_cl h0 (by omega); omega
        have w1 : (ga v1 1 A.toNat) = a1 := by rw [hA, q1, ec]; exact pk_us
        have w2 : (ga v1 2 A.toNat) = a2 := by rw [hA, q2, ec]; exact pk_us
        rw [w1, w2, hs, hw, p1, p2]
        exact Or.inr ⟨by omega, rfl, rfl, by omega⟩
      · exact absurd (hm.mpr cd) qn
    · have base := h A s w (by rw [p1] at hs; rw [p2] at hw; exact (Or.inl (⟨hA, hs, hw⟩)))
      rcases q with ⟨qe, q1, q2⟩ | ⟨_, q1, q2⟩
      · have cd := hm.mp qe
        have ne : A0 ≠ 0 := e.resolve_left (fun x => x (hc.mpr cd))
        have ec : A.toNat ≠ Int32.toNatClampNeg a0 := by have q9 := i_cl h0 (by omega); omega
        rw [q1, q2, pk_un ec, pk_un ec]
        exact base
      · rw [q1, q2]
        exact base
  · rcases g1 with ⟨e, f, p1, p2⟩ | ⟨e, p1, p2⟩
    · have cd := hc.mp e
      rcases q with ⟨_, q1, q2⟩ | ⟨qn, _, _⟩
      · have ec : Int32.toNatClampNeg a0 = 1 := by have q9 := i_cl h0 (by omega); omega
        have w1 : (ga v1 1 A.toNat) = a1 := by rw [hA, q1, ec]; exact pk_us
        have w2 : (ga v1 2 A.toNat) = a2 := by rw [hA, q2, ec]; exact pk_us
        rw [w1, w2, hs, hw, p1, p2]
        exact Or.inr ⟨by omega, rfl, rfl, by omega⟩
      · exact absurd (hm.mpr cd) qn
    · have base := h A s w (by rw [p1] at hs; rw [p2] at hw; exact (Or.inr (Or.inl (⟨hA, hs, hw⟩))))
      rcases q with ⟨qe, q1, q2⟩ | ⟨_, q1, q2⟩
      · have cd := hm.mp qe
        have ne : A0 ≠ 1 := e.resolve_left (fun x => x (hc.mpr cd))
        have ec : A.toNat ≠ Int32.toNatClampNeg a0 := by have q9 := i_cl h0 (by omega); omega
        rw [q1, q2, pk_un ec, pk_un ec]
        exact base
      · rw [q1, q2]
        exact base
  · rcases g2 with ⟨e, f, p1, p2⟩ | ⟨e, p1, p2⟩
    · have cd := hc.mp e
      rcases q with ⟨_, q1, q2⟩ | ⟨qn, _, _⟩
      · have ec : Int32.toNatClampNeg a0 = 2 := by have q9 := i_cl h0 (by omega); omega
        have w1 : (ga v1 1 A.toNat) = a1 := by rw [hA, q1, ec]; exact pk_us
        have w2 : (ga v1 2 A.toNat) = a2 := by rw [hA, q2, ec]; exact pk_us
        rw [w1, w2, hs, hw, p1, p2]
        exact Or.inr ⟨by omega, rfl, rfl, by omega⟩
      · exact absurd (hm.mpr cd) qn
    · have base := h A s w (by rw [p1] at hs; rw [p2] at hw; exact (Or.inr (Or.inr (Or.inl (⟨hA, hs, hw⟩)))))
      rcases q with ⟨qe, q1, q2⟩ | ⟨_, q1, q2⟩
      · have cd := hm.mp qe
        have ne : A0 ≠ 2 := e.resolve_left (fun x => x (hc.mpr cd))
        have ec : A.toNat ≠ Int32.toNatClampNeg a0 := by have q9 := i_cl h0 (by omega); omega
        rw [q1, q2, pk_un ec, pk_un ec]
        exact base
      · rw [q1, q2]
        exact base
  · rcases g3 with ⟨e, f, p1, p2⟩ | ⟨e, p1, p2⟩
    · have cd := hc.mp e
      rcases q with ⟨_, q1, q2⟩ | ⟨qn, _, _⟩
      · have ec : Int32.toNatClampNeg a0 = 3 := by have q9 := i_cl h0 (by omega); omega
        have w1 : (ga v1 1 A.toNat) = a1 := by rw [hA, q1, ec]; exact pk_us
        have w2 : (ga v1 2 A.toNat) = a2 := by rw [hA, q2, ec]; exact pk_us
        rw [w1, w2, hs, hw, p1, p2]
        exact Or.inr ⟨by omega, rfl, rfl, by omega⟩
      · exact absurd (hm.mpr cd) qn
    · have base := h A s w (by rw [p1] at hs; rw [p2] at hw; exact (Or.inr (Or.inr (Or.inr (⟨hA, hs, hw⟩)))))
      rcases q with ⟨qe, q1, q2⟩ | ⟨_, q1, q2⟩
      · have cd := hm.mp qe
        have ne : A0 ≠ 3 := e.resolve_left (fun x => x (hc.mpr cd))
        have ec : A.toNat ≠ Int32.toNatClampNeg a0 := by have q9 := i_cl h0 (by omega); omega
        rw [q1, q2, pk_un ec, pk_un ec]
        exact base
      · rw [q1, q2]
        exact base
