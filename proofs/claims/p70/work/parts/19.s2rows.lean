/-! the law's calls: the callee's world stands first, behind the call last -/
section LR
variable {p : Program} {l : Launch} {e : Env} {R : Room} {s : State} {m : MethodId} {args : Array Value} {below : List Frame} {meth : Method} {c : Code} {H : Heap} {locs : List Loc} {cells slots : Nat} {Q : State → Prop}
variable {cc : ByteArray} {pc nL : Nat} {ls : Array Slot} {rest st0 : List Value} {D : va_G} {A : Nat → Prop} {a : Nat} {tys : List (ClassId × FieldType)} {H0 : Heap} {w : St → va_W} {u : St} {wr : va_W}
variable {Ts : List Cond} {own Cn : String} {index n maxL h : Nat} {y : MethodName} {bytes : ByteArray} {ret : Option FieldType} {As : List Value} {X : (Nat → Prop) → State → Prop}
theorem lcI {post : Int32 → St → Prop} (S : CallFix p m c cc nL s args Ts own) (hT : ∀ w ∈ uw, w ∈ Ts)
    (hM : MetI l y bytes maxL ret h (.ref a :: As) D tys w X u H.size post)
    (q1 : Cond.methodLink own index y ∈ uw) (q2 : Cond.instanceMethod y ∈ uw) (q3 : Cond.selects Cn y y ∈ uw) (q4 : Cond.initialized Cn ∈ uw) (q5 : Cond.code y bytes maxL ret ∈ uw) (hd : HdV y Cn n)
    (hR : h + 1 ≤ R.frames ∧ 8 + (maxL + 11) + 60 * h ≤ R.locals) (hf : cells ≤ R.cells ∧ slots ≤ R.slots)
    (hK : va_K D vwCl tys s) (hP : va_P D vwCl (w u ++ wr) H) (hD : va_D A (w u ++ wr)) (hS : va_S A H0 H locs) (hA : ∀ q, H0.size ≤ q → A q) (hB : Bl X) (hX : ∀ U : State, U.heap = H → s.WarmedH U.vm → X (va_A (w u) H.size) U) (ci q0 : Nat) {T : u_T} {N : Nat} {fs : List Value} (hc : vwCl[ci]? = some (Cn, T, N)) (he : (w u)[q0]? = some (a, .inr (ci, fs)))
    (hn : As.length = n) (hl : ls.size = nL) (hst : st0 = As.reverse ++ .ref a :: rest) (hw : (rest.map fun v => v.category).sum ≤ 8) (hdg : decode cc pc = .ok (.invokevirtual index, 3))
    (kk : ∀ (r : Int32) (u1 : St) (H1 : Heap) (locs1 : List Loc), post r u1 → va_P D vwCl (wr ++ w u1) H1 → va_D A (wr ++ w u1) → va_S A H0 H1 locs1 → W p l e R s m args below meth c H1 locs1 cells slots Q (F0 m (pc + 3) ls (.int r :: rest))) : W p l e R s m args below meth c H locs cells slots Q (F0 m pc ls st0) := by
  have hFc := va_free hD hS hA ((List.range (w u).length).map (0 + ·)) (at_left (w1 := w u) (w2 := wr))
  refine va_calli (va_runV (As := As) (rest := rest) (C := Cn) S hM (cwV n S.2.2.2.2 (uV_good hT q1 q2 q3 q4 q5) rfl rfl rfl hd hR) ⟨blW hB, va_recv hK hP.left hc he, fun U hU hW => ⟨rfl, by rw [hU], by rw [hU]; exact hP.left, va_K.moved hW.alike hK, hD.left.weaken (fun _ _ _ _ => trivial), hX U hU hW⟩⟩ rfl hn hl hst (lv_room hw) hdg hf) hS (fun q _ h => hFc q h) hFc (fun r u1 t H1 locs1 ht hvm hpo hB hz1 hk1 hS1 => ?_)
  obtain ⟨hP1, hD1⟩ := hB
  rw [ht] at hP1
  obtain ⟨hP2, hD2⟩ := va_join hP hD ((List.range (w u).length).map (0 + ·)) ((List.range wr.length).map ((w u).length + ·)) at_left at_right (nd_range _ _) at_dis2 hk1 hFc hP1 hD1
  exact kk r u1 H1 locs1 hpo hP2 hD2 hS1
theorem XS.law {adK adV : Nat → Nat} {w1 w2 : va_W} {A : Nat → Prop} {s U : State} {H : Heap} {locs : List Loc} (hX : XS adK adV A s) (hD : va_D A (w1 ++ w2)) (hS : va_S A s.heap H locs) (hA : ∀ q, s.heap.size ≤ q → A q) (hW : s.WarmedH U.vm) (hU : U.heap = H) : XS adK adV (va_A w1 H.size) U := by
  subst hU
  exact (XSt.mv hW (XSt.kp hX hS.2.1)).nr (fun q hq => by
    rcases hq with ⟨k, e, hk⟩ | hq
    · exact hD.left.2 k (q, e) hk
    · exact hA q (Nat.le_trans hS.1 hq))
end LR
def RLt (u v : St) : Prop := ∀ k : Nat, k < 3 → (BIT u (Int32.ofNat k) = 0 ↔ ga v 11 k = 0)
theorem RLt.un {u v u1 v1 : St} (h : RLt u v) (e1 : gi u1 0 = gi u 0) (e2 : ga v1 11 = ga v 11) : RLt u1 v1 := by
  intro k hk
  unfold BIT
  rw [e1, e2]
  exact h k hk
def bitC (k : Nat) : Int32 := if k = 0 then 1 else if k = 1 then 2 else 4
theorem bits8 {x : Int32} (h : 0 ≤ x.toInt ∧ x.toInt ≤ 7) : x = 0 ∨ x = 1 ∨ x = 2 ∨ x = 3 ∨ x = 4 ∨ x = 5 ∨ x = 6 ∨ x = 7 := by
  rcases (show x.toInt = 0 ∨ x.toInt = 1 ∨ x.toInt = 2 ∨ x.toInt = 3 ∨ x.toInt = 4 ∨ x.toInt = 5 ∨ x.toInt = 6 ∨ x.toInt = 7 by omega) with g | g | g | g | g | g | g | g
  · exact Or.inl (i_lit g (by decide))
  · exact Or.inr (Or.inl (i_lit g (by decide)))
  · exact Or.inr (Or.inr (Or.inl (i_lit g (by decide))))
  · exact Or.inr (Or.inr (Or.inr (Or.inl (i_lit g (by decide)))))
  · exact Or.inr (Or.inr (Or.inr (Or.inr (Or.inl (i_lit g (by decide))))))
  · exact Or.inr (Or.inr (Or.inr (Or.inr (Or.inr (Or.inl (i_lit g (by decide)))))))
  · exact Or.inr (Or.inr (Or.inr (Or.inr (Or.inr (Or.inr (Or.inl (i_lit g (by decide))))))))
  · exact Or.inr (Or.inr (Or.inr (Or.inr (Or.inr (Or.inr (Or.inr (i_lit g (by decide))))))))
theorem img_bits {x : Int32} (h : 0 ≤ x.toInt ∧ x.toInt ≤ 7) : ∀ k, k < 3 → ∀ j, j < 3 → ((((x ||| bitC k) >>> (Int32.ofNat j &&& 31)) &&& 1 = 0) ↔ (j ≠ k ∧ (x >>> (Int32.ofNat j &&& 31)) &&& 1 = 0)) := by
  rcases bits8 h with rfl | rfl | rfl | rfl | rfl | rfl | rfl | rfl <;> decide
theorem RLt.img {u v u1 v1 : St} (h : RLt u v) (hI : 0 ≤ (gi u 0).toInt ∧ (gi u 0).toInt ≤ 7) (k : Nat) (hk : k < 3) (e1 : gi u1 0 = gi u 0 ||| bitC k) (e2 : ga v1 11 = upd (ga v 11) k 1) : RLt u1 v1 := by
  intro j hj
  unfold BIT
  rw [e1, e2, img_bits hI k hk j hj]
  by_cases e : j = k
  · subst e
    exact ⟨fun q => absurd rfl q.1, fun q => absurd (pk_us.symm.trans q) (by decide)⟩
  · rw [pk_un e]
    exact ⟨fun q => (h j hj).mp q.2, fun q => ⟨e, (h j hj).mpr q⟩⟩
