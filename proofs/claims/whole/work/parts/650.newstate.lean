/-! CONSTRUCTORS (3): new State, behind any list of cells -/
def stNew : List Value := [.null, .null, .null, .null, .null, .int 0, .int 0, .int 0, .int 0, .int 0, .int 0]
def stOf (q q1 q2 q3 q4 q5 : Nat) (c1 c2 c3 c4 c5 : ClassId) : va_W := [(q, .inr (0, [.ref q1, .ref q2, .ref q3, .ref q4, .ref q5, .int 0, .int (nI 7), .int (nI 3), .int (nI 30), .int 0, .int 0])), (q1, .inl (c1, 49, .inl (fun _ => 0))), (q2, .inl (c2, 27, .inl (fun _ => 0))), (q3, .inl (c3, 27, .inl (fun _ => 0))), (q4, .inl (c4, 84, .inl (fun _ => 0))), (q5, .inl (c5, 12, .inl (fun _ => 0)))]
theorem hd_X0_init : yX0_init.cls ≠ "java/lang/invoke/MethodHandle" ∧ yX0_init.cls ≠ "java/lang/invoke/VarHandle" ∧ (parseMethodDescriptor yX0_init.desc).map (fun d => d.parameters.length) = some 0 := by decide +kernel
set_option maxHeartbeats 4000000 in
set_option maxRecDepth 100000 in
theorem L_newState {p : Program} {l : Launch} {e : Env} {R : Room} {s : State} {m : MethodId} {args : Array Value} {below : List Frame} {meth : Method} {c : Code} {Q : State → Prop} {pc : Nat} {ls : Array Slot} {rest : List Value} {D : va_G} {A : Nat → Prop} {tys : List (ClassId × FieldType)} {ws : va_W} {H : Heap} {locs : List Loc} {cells slots : Nat} (S : CallFix p m c cX3_init 2 s args wsX3_init RX3) (hN : va_Nw (.methodLinkNest RX3 11 yX0_init RX3) s) (hl : ls.size = 2) (hK : va_K D vwCl tys s) (hP : va_P D vwCl ws H) (hD : va_D A ws) (hS : va_S A s.heap H locs) (hA : ∀ q, s.heap.size ≤ q → A q) (hf : cells + 6 ≤ R.cells ∧ slots + 210 ≤ R.slots) (hR : 3 ≤ R.frames ∧ 52 ≤ R.locals) (hcat : ((Value.ref 0 :: rest).map fun v => v.category).sum ≤ 8) (d1 : decode cX3_init pc = .ok (.new 9, 3)) (d2 : decode cX3_init (pc + 3) = .ok (.dup, 1)) (d3 : decode cX3_init (pc + 4) = .ok (.invokespecial 11, 3))
    (kk : ∀ (q q1 q2 q3 q4 q5 : Nat) (c1 c2 c3 c4 c5 : ClassId) (H1 : Heap) (locs1 : List Loc), va_K D vwCl [(c1, .int), (c2, .int), (c3, .boolean), (c4, .int), (c5, .int)] s → va_P D vwCl (ws ++ stOf q q1 q2 q3 q4 q5 c1 c2 c3 c4 c5) H1 → va_D A (ws ++ stOf q q1 q2 q3 q4 q5 c1 c2 c3 c4 c5) → va_S A s.heap H1 locs1 → W p l e R s m args below meth c H1 locs1 (cells + 6) (slots + 210) Q (F0 m (pc + 7) ls (.ref q :: rest))) : W p l e R s m args below meth c H locs cells slots Q (F0 m pc ls rest) := by
  obtain ⟨hx, hb, hml, hown, hts⟩ := id S
  refine va_new (ci := 0) (fs := stNew) (C := RX0) (T := TX0) (N := 11) hx hb hts (by decide +kernel) tyX0 tyX0_ok hown (hts (.classLink RX3 9 RX0) (by decide +kernel)) (hts (.instantiable RX0 11) (by decide +kernel)) (hts (.initialized RX0) (by decide +kernel)) hK hP hD hS hA rfl (fun j hj => by
    have : j = 0 ∨ j = 1 ∨ j = 2 ∨ j = 3 ∨ j = 4 ∨ j = 5 ∨ j = 6 ∨ j = 7 ∨ j = 8 ∨ j = 9 ∨ j = 10 := by omega
    rcases this with rfl | rfl | rfl | rfl | rfl | rfl | rfl | rfl | rfl | rfl | rfl <;> rfl) (by omega) (by omega) d1 (fun q H2 hP2 hD2 hS2 => ?_)
  have hq : (ws ++ [(q, .inr (0, stNew))])[ws.length]? = some (q, .inr (0, stNew)) := by simp
  have hlt : ∀ (k : Nat) (w : Nat × va_E), ws[k]? = some w → (ws ++ [(q, .inr (0, stNew))])[k]? = some w := fun k w h => by
    rw [List.getElem?_append_left (List.getElem?_eq_some_iff.mp h).1]
    exact h
  have hPc : va_P D vwCl [(q, .inr (0, stNew))] H2 := fun k w h => by
    have hk : k < 1 := (List.getElem?_eq_some_iff.mp h).1
    rw [show k = 0 by omega] at h
    cases h
    exact hP2 _ _ hq
  have hDc : va_D (fun _ => True) [(q, .inr (0, stNew))] := ⟨fun i j x y hi hj _ => by
    have h1 : i < 1 := (List.getElem?_eq_some_iff.mp hi).1
    have h2 : j < 1 := (List.getElem?_eq_some_iff.mp hj).1
    omega, fun _ _ _ => trivial⟩
  have hqA : A q := hD2.2 _ _ hq
  have hFc : ∀ a, va_A [(q, .inr (0, stNew))] H2.size a → A a := fun a h => by
    rcases h with ⟨k, e, h⟩ | h
    · have hk : k < 1 := (List.getElem?_eq_some_iff.mp h).1
      rw [show k = 0 by omega] at h
      cases h
      exact hqA
    · exact hA a (Nat.le_trans hS2.1 h)
  have hKc := hK.sub (tys' := []) [] rfl
  refine lv_dup hx hb d2 rfl ?_
  refine va_callv (va_runIN (As := []) (rest := .ref q :: rest) S (c_X0_init l D q H2.size) ⟨va_cnB 0 hts gX3_init_X0_init_n11 rfl rfl rfl hN (hts (.initialized RX0) (by decide +kernel)) hd_X0_init ⟨hR.1, hR.2⟩, rfl, hts (.instanceMethod yX0_init) (by decide +kernel)⟩ ⟨fun a U g mk q => by obtain ⟨q0, q1, qP, qK, qD⟩ := q; exact ⟨q0, q1, qP, va_K.moved (u := U) (U := U.calling g mk a) (Vm.Alike.refl U.vm) qK, qD⟩, fun U hU hW => ⟨rfl, by rw [hU], by rw [hU]; exact hPc, va_K.moved hW.alike hKc, hDc⟩⟩ rfl rfl hl rfl (lv_room hcat) d3 ⟨by omega, by omega⟩) hS2 (fun q _ h => hFc q h) hFc (fun u t H1 locs1 ht hvm hw hB hz1 hk1 hS3 => ?_)
  obtain ⟨q1, q2, q3, q4, q5, c1, c2, c3, c4, c5, hP1, hK1, hD1⟩ := hB
  rw [ht] at hP1
  have hK1 := va_K.moved hvm.symm hK1
  have apart : ∀ (k : Nat) (w : Nat × va_E), ws[k]? = some w → w.1 < H2.size ∧ ¬ va_A [(q, .inr (0, stNew))] H2.size w.1 := fun k w h => by
    have hl2 := (hP2 k w (hlt k w h)).lt
    refine ⟨hl2, fun hh => ?_⟩
    rcases hh with ⟨k2, e2, h2⟩ | h2
    · have hk : k2 < 1 := (List.getElem?_eq_some_iff.mp h2).1
      rw [show k2 = 0 by omega] at h2
      have e3 : w.1 = q := by cases h2; rfl
      have := hD2.1 k ws.length w _ (hlt k w h) hq e3
      have h4 := (List.getElem?_eq_some_iff.mp h).1
      omega
    · omega
  refine W.widen (k := cells + 6) (n := slots + 210) (by omega) (by omega) ?_
  refine kk q q1 q2 q3 q4 q5 c1 c2 c3 c4 c5 H1 _ hK1 (va_P.app (fun k w h => ?_) hP1) (va_D.app hD (hD1.weaken (fun k w _ h => hFc w.1 h)) (fun i j x y hx hy hxy => ?_)) hS3
  · obtain ⟨g1, g2⟩ := apart k w h
    exact (hP2 k w (hlt k w h)).kept (hk1 w.1 g1 g2)
  · exact (apart i x hx).2 (by rw [hxy]; exact hD1.2 j y hy)
