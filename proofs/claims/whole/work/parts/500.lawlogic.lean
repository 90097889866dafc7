/-! THE LAW'S OWN LOGIC: two worlds beside each other, all of their cells made since the law's entry -/
def LG (D : va_G) (n1 : Nat) (X1 : zE) (c1 : Nat → va_E) (n2 : Nat) (X2 : zE) (c2 : Nat → va_E) (s : State) (H : Heap) (locs : List Loc) : Prop := va_P D vwCl (zw_ws n1 X1.1 c1) H ∧ va_P D vwCl (zw_ws n2 X2.1 c2) H ∧ va_S (fun q : Nat => s.heap.size ≤ q) s.heap H locs
def LX (n1 : Nat) (X1 : zE) (n2 : Nat) (X2 : zE) (s : State) : Prop := (∀ i j, i < n1 → j < n2 → X1.1 i ≠ X2.1 j) ∧ (∀ i, i < n1 → s.heap.size ≤ X1.1 i) ∧ ∀ j, j < n2 → s.heap.size ≤ X2.1 j
theorem LG_sw {D : va_G} {n1 n2 : Nat} {X1 X2 : zE} {c1 c2 : Nat → va_E} {s : State} {H : Heap} {locs : List Loc} (h : LG D n1 X1 c1 n2 X2 c2 s H locs) : LG D n2 X2 c2 n1 X1 c1 s H locs := ⟨h.2.1, h.1, h.2.2⟩
theorem LX_sw {n1 n2 : Nat} {X1 X2 : zE} {s : State} (h : LX n1 X1 n2 X2 s) : LX n2 X2 n1 X1 s := ⟨fun i j hi hj e => h.1 j i hj hi e.symm, h.2.2, h.2.1⟩
section LW
variable {D : va_G} {n1 n2 : Nat} {X1 X2 : zE} {p : Program} {l : Launch} {e : Env} {R : Room} {s : State} {m : MethodId} {args : Array Value} {below : List Frame} {meth : Method} {c : Code} {Q : State → Prop} {nL pc : Nat} {st stk : List Value} {c1 c1' c2 : Nat → va_E} {H : Heap} {locs : List Loc} {cells slots : Nat} {ls : Array Slot}
variable {cc : ByteArray} {Ts : List Cond} {own : String} {y : MethodName} {bytes : ByteArray} {maxL k index ci : Nat} {retY : Option FieldType} {ws : List Cond} {rm : Room} {C : String} {T : u_T} {N q : Nat} {fs : List Value} {As : List Value}
theorem L_w (S : CallFix p m c cc nL s args Ts own) (K : zK D X1 s) (LXh : LX n1 X1 n2 X2 s) (hg : LG D n1 X1 c1 n2 X2 c2 s H locs) {x : Value} (M : zMw l y ws rm D n1 X1 c1 (.ref (X1.1 q) :: As) (some x) c1') (cw : CallW R s args own C index y bytes maxL retY ws rm 0 0 k) (hq : q < n1) (he : c1 q = .inr (ci, fs)) (hc : vwCl[ci]? = some (C, T, N)) (hn : As.length = k) (hst : stk = As.reverse ++ .ref (X1.1 q) :: st) (hcat : (st.map fun v => v.category).sum ≤ 8) (hls : ls.size = nL) (hd : decode cc pc = .ok (.invokevirtual index, 3)) (hf : cells + 0 ≤ R.cells ∧ slots + 0 ≤ R.slots)
    (kk : ∀ (H1 : Heap) (locs1 : List Loc), LG D n1 X1 c1' n2 X2 c2 s H1 locs1 → W p l e R s m args below meth c H1 locs1 cells slots Q (F0 m (pc + 3) ls (x :: st))) : W p l e R s m args below meth c H locs cells slots Q (F0 m pc ls stk) := by
  subst hst
  intro T hT XX
  obtain ⟨v, st₀, t, T', L, h0, X', hL, e1, e2, ⟨q1, q2, q3⟩, stp⟩ := va_runV (g := F0 m pc ls (As.reverse ++ .ref (X1.1 q) :: st)) S M cw ⟨zPc_blind, z_recv K hg.1 hq he hc, z_pre K hg.1⟩ rfl hn hls rfl (lv_room hcat) hd hf T hT XX
  cases q1
  have hz := q3.1
  have hk := q3.2
  rw [h0] at hz hk
  have hS := hg.2.2
  have hA : ∀ a : Nat, zw_A n1 X1.1 a → s.heap.size ≤ a := fun a ⟨r, hr, er⟩ => by rw [er]; exact LXh.2.1 r hr
  obtain ⟨t2, a1, b1⟩ := kk T'.heap (locs ++ L) ⟨by rw [e1]; exact q2, fun j w hw => by
      obtain ⟨g1, g2⟩ := zw_key hw
      have hat := hg.2.1 j w hw
      refine hat.kept ?_
      rw [e1]
      exact hk w.1 hat.lt (fun ⟨r, hr, er⟩ => LXh.1 r j hr g1 (by rw [← er, g2])), ⟨Nat.le_trans hS.1 (by rw [e1]; exact hz), fun a h1 h2 => by rw [e1, hk a (Nat.lt_of_lt_of_le h1 hS.1) (fun h => h2 (hA a h))]; exact hS.2.1 a h1 h2, fun a ha => by
      rcases List.mem_append.mp ha with h | h
      · exact hS.2.2 a h
      · exact hA _ (hL a h)⟩⟩ T' rfl X'
  exact ⟨t2, stp t2 a1, b1⟩
theorem L_r (S : CallFix p m c cc nL s args Ts own) (K : zK D X1 s) (hg : LG D n1 X1 c1 n2 X2 c2 s H locs) {x : Value} (M : zMr l y ws rm D n1 X1 c1 (.ref (X1.1 q) :: As) (some x)) (cw : CallW R s args own C index y bytes maxL retY ws rm 0 0 k) (hq : q < n1) (he : c1 q = .inr (ci, fs)) (hc : vwCl[ci]? = some (C, T, N)) (hn : As.length = k) (hst : stk = As.reverse ++ .ref (X1.1 q) :: st) (hcat : (st.map fun v => v.category).sum ≤ 8) (hls : ls.size = nL) (hd : decode cc pc = .ok (.invokevirtual index, 3)) (hf : cells + 0 ≤ R.cells ∧ slots + 0 ≤ R.slots)
    (kk : W p l e R s m args below meth c H locs cells slots Q (F0 m (pc + 3) ls (x :: st))) : W p l e R s m args below meth c H locs cells slots Q (F0 m pc ls stk) := by
  subst hst
  intro T hT XX
  obtain ⟨v, st₀, t, T', L, h0, X', hL, e1, e2, ⟨q1, q2⟩, stp⟩ := va_runV (g := F0 m pc ls (As.reverse ++ .ref (X1.1 q) :: st)) S M cw ⟨zPc_blind, z_recv K hg.1 hq he hc, z_pre K hg.1⟩ rfl hn hls rfl (lv_room hcat) hd hf T hT XX
  cases q1
  have hLn : L = [] := List.eq_nil_iff_forall_not_mem.mpr (fun a ha => hL a ha)
  subst hLn
  rw [List.append_nil] at X'
  obtain ⟨t2, a1, b1⟩ := kk T' (by rw [e1, q2, h0]) X'
  exact ⟨t2, stp t2 a1, b1⟩
end LW
